set_option maxHeartbeats 4000000 in
set_option maxRecDepth 100000 in
theorem x_X0_checkKind (l : Launch) (hl0 : l.stackTraces = false) (x : Int32) (hx0 : ¬ (x = 0 ∨ x = 1)) : vx_Met l yX0_checkKind (Cond.code yX0_checkKind cX0_checkKind 1 none :: kr_all) ({ frames := 6, cells := 1, slots := 6, locals := 90 }) (va_Pc [.int x] kr_T) kr_no (kr_XC "java/lang/IndexOutOfBoundsException") 1 6 (fun _ => False) := by
  refine kr_ofX (by decide) (Nat.le_of_ble_eq_true rfl) ?_
  intro p e s m below meth c ls hx hb hml hr hts hown hlocks ht hv hl
  have hT := hv
  have hown : s.vm.findClass RX0 = some m.cls := hown
  have hl : lv_has ls 1 [(0, .int x)] := hl
  refine lv_iload_n hx hb dX0_checkKind_0 rfl (lv_at hl 0 rfl) ?_
  refine lv_if_eq (tgt := 19) hx hb dX0_checkKind_1 (by decide) (fun c1 => absurd (Or.inl c1) hx0) (fun c1 => ?_)
  refine lv_iload_n hx hb dX0_checkKind_4 rfl (lv_at hl 0 rfl) ?_
  refine lv_iconst (v := 1) hx hb dX0_checkKind_5 (by decide) ?_
  refine lv_icmp_eq (tgt := 19) hx hb dX0_checkKind_6 (by decide) (fun c6 => absurd (Or.inr c6) hx0) (fun c6 => ?_)
  exact kr_thrI hx hb hl0 hown hts hT (List.mem_of_getElem? (i := 8) rfl) (hl.1.trans hml.symm) dX0_checkKind_9 dX0_checkKind_12 dX0_checkKind_13 dX0_checkKind_15 dX0_checkKind_18 ht ⟨by decide, by decide, by decide, by decide⟩ hlocks
set_option maxHeartbeats 4000000 in
set_option maxRecDepth 100000 in
theorem x_X0_checkKnot (l : Launch) (hl0 : l.stackTraces = false) (D : va_G) (cy : ClassId) (h : Nat) (a : Nat → Nat) (N L : Nat) (A : Nat → Nat → Int32) (x : Int32) (hx0 : ¬ kr_i N x) : vx_Met l yX0_checkKnot (Cond.code yX0_checkKnot cX0_checkKnot 2 none :: kr_all) ({ frames := 6, cells := 1, slots := 6, locals := 90 }) (va_Pc [.ref h, .int x] (kr_RT D (kr_W0 cy h a N L A) cy)) kr_no (kr_XC "java/lang/IndexOutOfBoundsException") 1 6 (fun _ => False) := by
  refine kr_ofX (by decide) (Nat.le_of_ble_eq_true rfl) ?_
  intro p e s m below meth c ls hx hb hml hr hts hown hlocks ht hv hl
  obtain ⟨⟨hP, hK⟩, hT⟩ := hv
  have hown : s.vm.findClass RX0 = some m.cls := hown
  have hl : lv_has ls 2 [(0, .ref h), (1, .int x)] := hl
  refine lv_aload_n hx hb dX0_checkKnot_0 rfl (lv_at hl 0 rfl) ?_
  refine lv_iload_n hx hb dX0_checkKnot_1 rfl (lv_at hl 1 rfl) ?_
  refine kr_vI (n := 1) (As := [.int x]) (rest := []) ⟨hx, hb, hml, hown, hts⟩ (c_X0_isKnot l D cy h a N L A x) kg_RX0_125 ⟨rfl, rfl⟩ (by decide +kernel) ⟨Nat.le_of_ble_eq_true rfl, Nat.le_of_ble_eq_true rfl⟩ (kr_pv0 hP hK) rfl hl.1 rfl (Nat.le_of_ble_eq_true rfl) dX0_checkKnot_2 ⟨Nat.zero_le _, Nat.zero_le _⟩ (fun r9 e9 => ?_)
  subst e9
  refine lv_if_ne (tgt := 18) hx hb dX0_checkKnot_5 (by decide) (fun c5 => absurd (kr_if1 c5) hx0) (fun c5 => ?_)
  exact kr_thrI hx hb hl0 hown hts hT (List.mem_of_getElem? (i := 9) rfl) (hl.1.trans hml.symm) dX0_checkKnot_8 dX0_checkKnot_11 dX0_checkKnot_12 dX0_checkKnot_14 dX0_checkKnot_17 ht ⟨by decide, by decide, by decide, by decide⟩ hlocks
set_option maxHeartbeats 4000000 in
set_option maxRecDepth 100000 in
theorem x_X0_checkOfKind (l : Launch) (hl0 : l.stackTraces = false) (D : va_G) (cy : ClassId) (h : Nat) (a : Nat → Nat) (N L : Nat) (A : Nat → Nat → Int32) (k : Nat) (kd : Int32) (hk : k < 16) (he : ¬ A 0 k = kd) : vx_Met l yX0_checkOfKind (Cond.code yX0_checkOfKind cX0_checkOfKind 3 none :: kr_all) ({ frames := 6, cells := 1, slots := 6, locals := 90 }) (va_Pc [.ref h, .int (nI k), .int kd] (kr_RT D (kr_W0 cy h a N L A) cy)) kr_no (kr_XC "java/lang/IllegalArgumentException") 1 6 (fun _ => False) := by
  refine kr_ofX (by decide) (Nat.le_of_ble_eq_true rfl) ?_
  intro p e s m below meth c ls hx hb hml hr hts hown hlocks ht hv hl
  obtain ⟨⟨hP, hK⟩, hT⟩ := hv
  have hown : s.vm.findClass RX0 = some m.cls := hown
  have hl : lv_has ls 3 [(0, .ref h), (1, .int (nI k)), (2, .int kd)] := hl
  refine lv_aload_n hx hb dX0_checkOfKind_0 rfl (lv_at hl 0 rfl) ?_
  refine va_get (ci := 0) (v := .ref (a 0)) (C := RX0) (T := TX0) (N := 10) hx hb hts kr_wsX0 hown hK hP 0 rfl rfl 0 (by decide) (hts _ kq_42) (fun _ h9 => h9) rfl dX0_checkOfKind_1 ?_
  refine lv_iload_n hx hb dX0_checkOfKind_4 rfl (lv_at hl 1 rfl) ?_
  refine kr_ald hx hb hK hP 1 0 rfl rfl k (by omega) (by decide) dX0_checkOfKind_5 ?_
  refine lv_iload_n hx hb dX0_checkOfKind_6 rfl (lv_at hl 2 rfl) ?_
  refine lv_icmp_eq (tgt := 20) hx hb dX0_checkOfKind_7 (by decide) (fun c7 => absurd c7 he) (fun c7 => ?_)
  exact kr_thrA hx hb hl0 hown hts hT (List.mem_of_getElem? (i := 10) rfl) (hl.1.trans hml.symm) dX0_checkOfKind_10 dX0_checkOfKind_13 dX0_checkOfKind_14 dX0_checkOfKind_16 dX0_checkOfKind_19 ht ⟨by decide, by decide, by decide, by decide⟩ hlocks
set_option maxHeartbeats 4000000 in
set_option maxRecDepth 100000 in
theorem x_X0_checkLoad (l : Launch) (hl0 : l.stackTraces = false) (x : Int32) (hx0 : ¬ kr_o x) : vx_Met l yX0_checkLoad (Cond.code yX0_checkLoad cX0_checkLoad 1 none :: kr_all) ({ frames := 6, cells := 1, slots := 6, locals := 90 }) (va_Pc [.int x] kr_T) kr_no (kr_XC "java/lang/IllegalArgumentException") 1 6 (fun _ => False) := by
  refine kr_ofX (by decide) (Nat.le_of_ble_eq_true rfl) ?_
  intro p e s m below meth c ls hx hb hml hr hts hown hlocks ht hv hl
  have hT := hv
  have hown : s.vm.findClass RX0 = some m.cls := hown
  have hl : lv_has ls 1 [(0, .int x)] := hl
  refine lv_iload_n hx hb dX0_checkLoad_0 rfl (lv_at hl 0 rfl) ?_
  refine lv_iconst (v := 1) hx hb dX0_checkLoad_1 (by decide) ?_
  refine lv_icmp_lt (tgt := 12) hx hb dX0_checkLoad_2 (by decide) (fun c2 => ?_) (fun c2 => ?_)
  · exact kr_thrA hx hb hl0 hown hts hT (List.mem_of_getElem? (i := 11) rfl) (hl.1.trans hml.symm) dX0_checkLoad_12 dX0_checkLoad_15 dX0_checkLoad_16 dX0_checkLoad_18 dX0_checkLoad_21 ht ⟨by decide, by decide, by decide, by decide⟩ hlocks
  · refine lv_iload_n hx hb dX0_checkLoad_5 rfl (lv_at hl 0 rfl) ?_
    refine lv_sipush (v := 999) hx hb dX0_checkLoad_6 (by decide) ?_
    refine lv_icmp_le (tgt := 22) hx hb dX0_checkLoad_9 (by decide) (fun c9 => absurd ⟨c2, kr_ngt2 c9⟩ hx0) (fun c9 => ?_)
    exact kr_thrA hx hb hl0 hown hts hT (List.mem_of_getElem? (i := 11) rfl) (hl.1.trans hml.symm) dX0_checkLoad_12 dX0_checkLoad_15 dX0_checkLoad_16 dX0_checkLoad_18 dX0_checkLoad_21 ht ⟨by decide, by decide, by decide, by decide⟩ hlocks
set_option maxHeartbeats 4000000 in
set_option maxRecDepth 100000 in
theorem x_X0_checkStrength (l : Launch) (hl0 : l.stackTraces = false) (x : Int32) (hx0 : ¬ kr_o x) : vx_Met l yX0_checkStrength (Cond.code yX0_checkStrength cX0_checkStrength 1 none :: kr_all) ({ frames := 6, cells := 1, slots := 6, locals := 90 }) (va_Pc [.int x] kr_T) kr_no (kr_XC "java/lang/IllegalArgumentException") 1 6 (fun _ => False) := by
  refine kr_ofX (by decide) (Nat.le_of_ble_eq_true rfl) ?_
  intro p e s m below meth c ls hx hb hml hr hts hown hlocks ht hv hl
  have hT := hv
  have hown : s.vm.findClass RX0 = some m.cls := hown
  have hl : lv_has ls 1 [(0, .int x)] := hl
  refine lv_iload_n hx hb dX0_checkStrength_0 rfl (lv_at hl 0 rfl) ?_
  refine lv_iconst (v := 1) hx hb dX0_checkStrength_1 (by decide) ?_
  refine lv_icmp_lt (tgt := 12) hx hb dX0_checkStrength_2 (by decide) (fun c2 => ?_) (fun c2 => ?_)
  · exact kr_thrA hx hb hl0 hown hts hT (List.mem_of_getElem? (i := 12) rfl) (hl.1.trans hml.symm) dX0_checkStrength_12 dX0_checkStrength_15 dX0_checkStrength_16 dX0_checkStrength_18 dX0_checkStrength_21 ht ⟨by decide, by decide, by decide, by decide⟩ hlocks
  · refine lv_iload_n hx hb dX0_checkStrength_5 rfl (lv_at hl 0 rfl) ?_
    refine lv_sipush (v := 999) hx hb dX0_checkStrength_6 (by decide) ?_
    refine lv_icmp_le (tgt := 22) hx hb dX0_checkStrength_9 (by decide) (fun c9 => absurd ⟨c2, kr_ngt2 c9⟩ hx0) (fun c9 => ?_)
    exact kr_thrA hx hb hl0 hown hts hT (List.mem_of_getElem? (i := 12) rfl) (hl.1.trans hml.symm) dX0_checkStrength_12 dX0_checkStrength_15 dX0_checkStrength_16 dX0_checkStrength_18 dX0_checkStrength_21 ht ⟨by decide, by decide, by decide, by decide⟩ hlocks
set_option maxHeartbeats 4000000 in
set_option maxRecDepth 100000 in
theorem x_X0_checkLine (l : Launch) (hl0 : l.stackTraces = false) (D : va_G) (cy : ClassId) (h : Nat) (a : Nat → Nat) (N L : Nat) (A : Nat → Nat → Int32) (x : Int32) (hx0 : ¬ kr_i L x) : vx_Met l yX0_checkLine (Cond.code yX0_checkLine cX0_checkLine 2 none :: kr_all) ({ frames := 6, cells := 1, slots := 6, locals := 90 }) (va_Pc [.ref h, .int x] (kr_RT D (kr_W0 cy h a N L A) cy)) kr_no (kr_XC "java/lang/IndexOutOfBoundsException") 1 6 (fun _ => False) := by
  refine kr_ofX (by decide) (Nat.le_of_ble_eq_true rfl) ?_
  intro p e s m below meth c ls hx hb hml hr hts hown hlocks ht hv hl
  obtain ⟨⟨hP, hK⟩, hT⟩ := hv
  have hown : s.vm.findClass RX0 = some m.cls := hown
  have hl : lv_has ls 2 [(0, .ref h), (1, .int x)] := hl
  refine lv_iload_n hx hb dX0_checkLine_0 rfl (lv_at hl 1 rfl) ?_
  refine lv_if_lt (tgt := 12) hx hb dX0_checkLine_1 (by decide) (fun c1 => ?_) (fun c1 => ?_)
  · exact kr_thrI hx hb hl0 hown hts hT (List.mem_of_getElem? (i := 13) rfl) (hl.1.trans hml.symm) dX0_checkLine_12 dX0_checkLine_15 dX0_checkLine_16 dX0_checkLine_18 dX0_checkLine_21 ht ⟨by decide, by decide, by decide, by decide⟩ hlocks
  · refine lv_iload_n hx hb dX0_checkLine_4 rfl (lv_at hl 1 rfl) ?_
    refine lv_aload_n hx hb dX0_checkLine_5 rfl (lv_at hl 0 rfl) ?_
    refine va_get (ci := 0) (v := .int (nI L)) (C := RX0) (T := TX0) (N := 10) hx hb hts kr_wsX0 hown hK hP 0 rfl rfl 7 (by decide) (hts _ kq_49) (fun _ h9 => h9) rfl dX0_checkLine_6 ?_
    refine lv_icmp_lt (tgt := 22) hx hb dX0_checkLine_9 (by decide) (fun c9 => absurd ⟨c1, kr_ngt c9⟩ hx0) (fun c9 => ?_)
    exact kr_thrI hx hb hl0 hown hts hT (List.mem_of_getElem? (i := 13) rfl) (hl.1.trans hml.symm) dX0_checkLine_12 dX0_checkLine_15 dX0_checkLine_16 dX0_checkLine_18 dX0_checkLine_21 ht ⟨by decide, by decide, by decide, by decide⟩ hlocks
set_option maxHeartbeats 4000000 in
set_option maxRecDepth 100000 in
theorem x_X0_checkPlace (l : Launch) (hl0 : l.stackTraces = false) (D : va_G) (cy : ClassId) (h : Nat) (a : Nat → Nat) (N L : Nat) (A : Nat → Nat → Int32) (x y : Int32) (hw : kr_wf N L A) (hx0 : ¬ kr_q L A x y) : vx_Met l yX0_checkPlace (Cond.code yX0_checkPlace cX0_checkPlace 3 none :: kr_all) ({ frames := 7, cells := 1, slots := 6, locals := 111 }) (va_Pc [.ref h, .int x, .int y] (kr_RT D (kr_W0 cy h a N L A) cy)) kr_no (kr_XC "java/lang/IndexOutOfBoundsException") 1 6 (fun _ => False) := by
  refine kr_ofX (by decide) (Nat.le_of_ble_eq_true rfl) ?_
  intro p e s m below meth c ls hx hb hml hr hts hown hlocks ht hv hl
  obtain ⟨⟨hP, hK⟩, hT⟩ := hv
  have hown : s.vm.findClass RX0 = some m.cls := hown
  have hl : lv_has ls 3 [(0, .ref h), (1, .int x), (2, .int y)] := hl
  have hL := hw.2.1
  refine lv_aload_n hx hb dX0_checkPlace_0 rfl (lv_at hl 0 rfl) ?_
  refine lv_iload_n hx hb dX0_checkPlace_1 rfl (lv_at hl 1 rfl) ?_
  by_cases hk : kr_i L x
  · obtain ⟨q, hq, rfl⟩ := kr_inL hL hk
    refine kr_vV (n := 1) (As := [.int (nI q)]) (rest := []) ⟨hx, hb, hml, hown, hts⟩ (c_X0_checkLine l D cy h a N L A q (by omega) (by omega)) kg_RX0_82 ⟨rfl, rfl⟩ (by decide +kernel) ⟨Nat.le_of_ble_eq_true rfl, Nat.le_of_ble_eq_true rfl⟩ (kr_pv0 hP hK) rfl hl.1 rfl (Nat.le_of_ble_eq_true rfl) dX0_checkPlace_2 ⟨Nat.zero_le _, Nat.zero_le _⟩ ?_
    refine lv_iload_n hx hb dX0_checkPlace_5 rfl (lv_at hl 2 rfl) ?_
    refine lv_if_lt (tgt := 19) hx hb dX0_checkPlace_6 (by decide) (fun c6 => ?_) (fun c6 => ?_)
    · exact kr_thrI hx hb hl0 hown hts hT (List.mem_of_getElem? (i := 14) rfl) (hl.1.trans hml.symm) dX0_checkPlace_19 dX0_checkPlace_22 dX0_checkPlace_23 dX0_checkPlace_25 dX0_checkPlace_28 ht ⟨by decide, by decide, by decide, by decide⟩ hlocks
    · refine lv_iload_n hx hb dX0_checkPlace_9 rfl (lv_at hl 2 rfl) ?_
      refine lv_aload_n hx hb dX0_checkPlace_10 rfl (lv_at hl 0 rfl) ?_
      refine va_get (ci := 0) (v := .ref (a 5)) (C := RX0) (T := TX0) (N := 10) hx hb hts kr_wsX0 hown hK hP 0 rfl rfl 6 (by decide) (hts _ kq_48) (fun _ h9 => h9) rfl dX0_checkPlace_11 ?_
      refine lv_iload_n hx hb dX0_checkPlace_14 rfl (lv_at hl 1 rfl) ?_
      refine kr_ald hx hb hK hP 6 0 rfl rfl q (by omega) (by decide) dX0_checkPlace_15 ?_
      refine lv_icmp_lt (tgt := 29) hx hb dX0_checkPlace_16 (by decide) (fun c16 => absurd ⟨hk, c6, by rw [kr_ix_nI (by omega)]; exact kr_ngt c16⟩ hx0) (fun c16 => ?_)
      exact kr_thrI hx hb hl0 hown hts hT (List.mem_of_getElem? (i := 14) rfl) (hl.1.trans hml.symm) dX0_checkPlace_19 dX0_checkPlace_22 dX0_checkPlace_23 dX0_checkPlace_25 dX0_checkPlace_28 ht ⟨by decide, by decide, by decide, by decide⟩ hlocks
  · exact kr_xV (n := 1) (As := [.int x]) (rest := []) ⟨hx, hb, hml, hown, hts⟩ (x_X0_checkLine l hl0 D cy h a N L A x hk) kg_RX0_82 ⟨rfl, rfl⟩ (by decide +kernel) ⟨Nat.le_of_ble_eq_true rfl, Nat.le_of_ble_eq_true rfl⟩ (kr_pvx hP hK hT (fun _ _ => rfl)) rfl hl.1 rfl (Nat.le_of_ble_eq_true rfl) dX0_checkPlace_2 ⟨Nat.le_of_ble_eq_true rfl, Nat.le_of_ble_eq_true rfl⟩ ht hlocks
set_option maxHeartbeats 4000000 in
set_option maxRecDepth 100000 in
theorem x_X0_checkNotGone (l : Launch) (hl0 : l.stackTraces = false) (D : va_G) (cy : ClassId) (h : Nat) (a : Nat → Nat) (N L : Nat) (A : Nat → Nat → Int32) (q : Nat) (hq : q < 6) (hg : A 5 q = 0) : vx_Met l yX0_checkNotGone (Cond.code yX0_checkNotGone cX0_checkNotGone 2 none :: kr_all) ({ frames := 6, cells := 1, slots := 6, locals := 90 }) (va_Pc [.ref h, .int (nI q)] (kr_RT D (kr_W0 cy h a N L A) cy)) kr_no (kr_XC "java/lang/IllegalStateException") 1 6 (fun _ => False) := by
  refine kr_ofX (by decide) (Nat.le_of_ble_eq_true rfl) ?_
  intro p e s m below meth c ls hx hb hml hr hts hown hlocks ht hv hl
  obtain ⟨⟨hP, hK⟩, hT⟩ := hv
  have hown : s.vm.findClass RX0 = some m.cls := hown
  have hl : lv_has ls 2 [(0, .ref h), (1, .int (nI q))] := hl
  refine lv_aload_n hx hb dX0_checkNotGone_0 rfl (lv_at hl 0 rfl) ?_
  refine lv_iload_n hx hb dX0_checkNotGone_1 rfl (lv_at hl 1 rfl) ?_
  refine kr_vI (n := 1) (As := [.int (nI q)]) (rest := []) ⟨hx, hb, hml, hown, hts⟩ (c_X0_isGone l D cy h a N L A q (by omega)) kg_RX0_140 ⟨rfl, rfl⟩ (by decide +kernel) ⟨Nat.le_of_ble_eq_true rfl, Nat.le_of_ble_eq_true rfl⟩ (kr_pv0 hP hK) rfl hl.1 rfl (Nat.le_of_ble_eq_true rfl) dX0_checkNotGone_2 ⟨Nat.zero_le _, Nat.zero_le _⟩ (fun r9 e9 => ?_)
  subst e9
  refine lv_if_eq (tgt := 18) hx hb dX0_checkNotGone_5 (by decide) (fun c5 => absurd hg (kr_if0 c5)) (fun c5 => ?_)
  exact kr_thrS hx hb hl0 hown hts hT (List.mem_of_getElem? (i := 15) rfl) (hl.1.trans hml.symm) dX0_checkNotGone_8 dX0_checkNotGone_11 dX0_checkNotGone_12 dX0_checkNotGone_14 dX0_checkNotGone_17 ht ⟨by decide, by decide, by decide, by decide⟩ hlocks
set_option maxHeartbeats 4000000 in
set_option maxRecDepth 100000 in
theorem x_X0_kindOf (l : Launch) (hl0 : l.stackTraces = false) (D : va_G) (cy : ClassId) (h : Nat) (a : Nat → Nat) (N L : Nat) (A : Nat → Nat → Int32) (x : Int32) (hc : ¬ kr_cd (kr_i N x) True True = 0) : vx_Met l yX0_kindOf (Cond.code yX0_kindOf cX0_kindOf 2 (some .int) :: kr_all) ({ frames := 7, cells := 1, slots := 6, locals := 111 }) (va_Pc [.ref h, .int x] (kr_RT D (kr_W0 cy h a N L A) cy)) kr_no (kr_XC (kr_E (kr_cd (kr_i N x) True True))) 1 6 (fun _ => False) := by
  refine kr_ofX (by decide) (Nat.le_of_ble_eq_true rfl) ?_
  intro p e s m below meth c ls hx hb hml hr hts hown hlocks ht hv hl
  obtain ⟨⟨hP, hK⟩, hT⟩ := hv
  have hown : s.vm.findClass RX0 = some m.cls := hown
  have hl : lv_has ls 2 [(0, .ref h), (1, .int x)] := hl
  refine lv_aload_n hx hb dX0_kindOf_0 rfl (lv_at hl 0 rfl) ?_
  refine lv_iload_n hx hb dX0_kindOf_1 rfl (lv_at hl 1 rfl) ?_
  by_cases hk : kr_i N x
  · exact absurd (kr_cd0 hk trivial trivial) hc
  · rw [kr_cd1 hk, kr_E1]
    exact kr_xV (n := 1) (As := [.int x]) (rest := []) ⟨hx, hb, hml, hown, hts⟩ (x_X0_checkKnot l hl0 D cy h a N L A x hk) kg_RX0_59 ⟨rfl, rfl⟩ (by decide +kernel) ⟨Nat.le_of_ble_eq_true rfl, Nat.le_of_ble_eq_true rfl⟩ (kr_pvx hP hK hT (fun _ _ => rfl)) rfl hl.1 rfl (Nat.le_of_ble_eq_true rfl) dX0_kindOf_2 ⟨Nat.le_of_ble_eq_true rfl, Nat.le_of_ble_eq_true rfl⟩ ht hlocks
set_option maxHeartbeats 4000000 in
set_option maxRecDepth 100000 in
theorem x_X0_efficiencyOf (l : Launch) (hl0 : l.stackTraces = false) (D : va_G) (cy : ClassId) (h : Nat) (a : Nat → Nat) (N L : Nat) (A : Nat → Nat → Int32) (x : Int32) (hc : ¬ kr_cd (kr_i N x) True True = 0) : vx_Met l yX0_efficiencyOf (Cond.code yX0_efficiencyOf cX0_efficiencyOf 2 (some .int) :: kr_all) ({ frames := 7, cells := 1, slots := 6, locals := 111 }) (va_Pc [.ref h, .int x] (kr_RT D (kr_W0 cy h a N L A) cy)) kr_no (kr_XC (kr_E (kr_cd (kr_i N x) True True))) 1 6 (fun _ => False) := by
  refine kr_ofX (by decide) (Nat.le_of_ble_eq_true rfl) ?_
  intro p e s m below meth c ls hx hb hml hr hts hown hlocks ht hv hl
  obtain ⟨⟨hP, hK⟩, hT⟩ := hv
  have hown : s.vm.findClass RX0 = some m.cls := hown
  have hl : lv_has ls 2 [(0, .ref h), (1, .int x)] := hl
  refine lv_aload_n hx hb dX0_efficiencyOf_0 rfl (lv_at hl 0 rfl) ?_
  refine lv_iload_n hx hb dX0_efficiencyOf_1 rfl (lv_at hl 1 rfl) ?_
  by_cases hk : kr_i N x
  · exact absurd (kr_cd0 hk trivial trivial) hc
  · rw [kr_cd1 hk, kr_E1]
    exact kr_xV (n := 1) (As := [.int x]) (rest := []) ⟨hx, hb, hml, hown, hts⟩ (x_X0_checkKnot l hl0 D cy h a N L A x hk) kg_RX0_59 ⟨rfl, rfl⟩ (by decide +kernel) ⟨Nat.le_of_ble_eq_true rfl, Nat.le_of_ble_eq_true rfl⟩ (kr_pvx hP hK hT (fun _ _ => rfl)) rfl hl.1 rfl (Nat.le_of_ble_eq_true rfl) dX0_efficiencyOf_2 ⟨Nat.le_of_ble_eq_true rfl, Nat.le_of_ble_eq_true rfl⟩ ht hlocks
set_option maxHeartbeats 4000000 in
set_option maxRecDepth 100000 in
theorem x_X0_crossingsOf (l : Launch) (hl0 : l.stackTraces = false) (D : va_G) (cy : ClassId) (h : Nat) (a : Nat → Nat) (N L : Nat) (A : Nat → Nat → Int32) (x : Int32) (hc : ¬ kr_cd (kr_i N x) True True = 0) : vx_Met l yX0_crossingsOf (Cond.code yX0_crossingsOf cX0_crossingsOf 2 (some .int) :: kr_all) ({ frames := 7, cells := 1, slots := 6, locals := 111 }) (va_Pc [.ref h, .int x] (kr_RT D (kr_W0 cy h a N L A) cy)) kr_no (kr_XC (kr_E (kr_cd (kr_i N x) True True))) 1 6 (fun _ => False) := by
  refine kr_ofX (by decide) (Nat.le_of_ble_eq_true rfl) ?_
  intro p e s m below meth c ls hx hb hml hr hts hown hlocks ht hv hl
  obtain ⟨⟨hP, hK⟩, hT⟩ := hv
  have hown : s.vm.findClass RX0 = some m.cls := hown
  have hl : lv_has ls 2 [(0, .ref h), (1, .int x)] := hl
  refine lv_aload_n hx hb dX0_crossingsOf_0 rfl (lv_at hl 0 rfl) ?_
  refine lv_iload_n hx hb dX0_crossingsOf_1 rfl (lv_at hl 1 rfl) ?_
  by_cases hk : kr_i N x
  · exact absurd (kr_cd0 hk trivial trivial) hc
  · rw [kr_cd1 hk, kr_E1]
    exact kr_xV (n := 1) (As := [.int x]) (rest := []) ⟨hx, hb, hml, hown, hts⟩ (x_X0_checkKnot l hl0 D cy h a N L A x hk) kg_RX0_59 ⟨rfl, rfl⟩ (by decide +kernel) ⟨Nat.le_of_ble_eq_true rfl, Nat.le_of_ble_eq_true rfl⟩ (kr_pvx hP hK hT (fun _ _ => rfl)) rfl hl.1 rfl (Nat.le_of_ble_eq_true rfl) dX0_crossingsOf_2 ⟨Nat.le_of_ble_eq_true rfl, Nat.le_of_ble_eq_true rfl⟩ ht hlocks
set_option maxHeartbeats 4000000 in
set_option maxRecDepth 100000 in
theorem x_X0_spillsAt (l : Launch) (hl0 : l.stackTraces = false) (D : va_G) (cy : ClassId) (h : Nat) (a : Nat → Nat) (N L : Nat) (A : Nat → Nat → Int32) (x : Int32) (hc : ¬ kr_cd (kr_i N x) True True = 0) : vx_Met l yX0_spillsAt (Cond.code yX0_spillsAt cX0_spillsAt 2 (some .int) :: kr_all) ({ frames := 7, cells := 1, slots := 6, locals := 111 }) (va_Pc [.ref h, .int x] (kr_RT D (kr_W0 cy h a N L A) cy)) kr_no (kr_XC (kr_E (kr_cd (kr_i N x) True True))) 1 6 (fun _ => False) := by
  refine kr_ofX (by decide) (Nat.le_of_ble_eq_true rfl) ?_
  intro p e s m below meth c ls hx hb hml hr hts hown hlocks ht hv hl
  obtain ⟨⟨hP, hK⟩, hT⟩ := hv
  have hown : s.vm.findClass RX0 = some m.cls := hown
  have hl : lv_has ls 2 [(0, .ref h), (1, .int x)] := hl
  refine lv_aload_n hx hb dX0_spillsAt_0 rfl (lv_at hl 0 rfl) ?_
  refine lv_iload_n hx hb dX0_spillsAt_1 rfl (lv_at hl 1 rfl) ?_
  by_cases hk : kr_i N x
  · exact absurd (kr_cd0 hk trivial trivial) hc
  · rw [kr_cd1 hk, kr_E1]
    exact kr_xV (n := 1) (As := [.int x]) (rest := []) ⟨hx, hb, hml, hown, hts⟩ (x_X0_checkKnot l hl0 D cy h a N L A x hk) kg_RX0_59 ⟨rfl, rfl⟩ (by decide +kernel) ⟨Nat.le_of_ble_eq_true rfl, Nat.le_of_ble_eq_true rfl⟩ (kr_pvx hP hK hT (fun _ _ => rfl)) rfl hl.1 rfl (Nat.le_of_ble_eq_true rfl) dX0_spillsAt_2 ⟨Nat.le_of_ble_eq_true rfl, Nat.le_of_ble_eq_true rfl⟩ ht hlocks
set_option maxHeartbeats 4000000 in
set_option maxRecDepth 100000 in
theorem x_X0_spillsInto (l : Launch) (hl0 : l.stackTraces = false) (D : va_G) (cy : ClassId) (h : Nat) (a : Nat → Nat) (N L : Nat) (A : Nat → Nat → Int32) (x : Int32) (hc : ¬ kr_cd (kr_i N x) True True = 0) : vx_Met l yX0_spillsInto (Cond.code yX0_spillsInto cX0_spillsInto 2 (some .int) :: kr_all) ({ frames := 7, cells := 1, slots := 6, locals := 111 }) (va_Pc [.ref h, .int x] (kr_RT D (kr_W0 cy h a N L A) cy)) kr_no (kr_XC (kr_E (kr_cd (kr_i N x) True True))) 1 6 (fun _ => False) := by
  refine kr_ofX (by decide) (Nat.le_of_ble_eq_true rfl) ?_
  intro p e s m below meth c ls hx hb hml hr hts hown hlocks ht hv hl
  obtain ⟨⟨hP, hK⟩, hT⟩ := hv
  have hown : s.vm.findClass RX0 = some m.cls := hown
  have hl : lv_has ls 2 [(0, .ref h), (1, .int x)] := hl
  refine lv_aload_n hx hb dX0_spillsInto_0 rfl (lv_at hl 0 rfl) ?_
  refine lv_iload_n hx hb dX0_spillsInto_1 rfl (lv_at hl 1 rfl) ?_
  by_cases hk : kr_i N x
  · exact absurd (kr_cd0 hk trivial trivial) hc
  · rw [kr_cd1 hk, kr_E1]
    exact kr_xV (n := 1) (As := [.int x]) (rest := []) ⟨hx, hb, hml, hown, hts⟩ (x_X0_checkKnot l hl0 D cy h a N L A x hk) kg_RX0_59 ⟨rfl, rfl⟩ (by decide +kernel) ⟨Nat.le_of_ble_eq_true rfl, Nat.le_of_ble_eq_true rfl⟩ (kr_pvx hP hK hT (fun _ _ => rfl)) rfl hl.1 rfl (Nat.le_of_ble_eq_true rfl) dX0_spillsInto_2 ⟨Nat.le_of_ble_eq_true rfl, Nat.le_of_ble_eq_true rfl⟩ ht hlocks
set_option maxHeartbeats 4000000 in
set_option maxRecDepth 100000 in
theorem x_X0_rankOf (l : Launch) (hl0 : l.stackTraces = false) (D : va_G) (cy : ClassId) (h : Nat) (a : Nat → Nat) (N L : Nat) (A : Nat → Nat → Int32) (x : Int32) (hc : ¬ kr_cd (kr_i N x) True True = 0) : vx_Met l yX0_rankOf (Cond.code yX0_rankOf cX0_rankOf 2 (some .int) :: kr_all) ({ frames := 7, cells := 1, slots := 6, locals := 111 }) (va_Pc [.ref h, .int x] (kr_RT D (kr_W0 cy h a N L A) cy)) kr_no (kr_XC (kr_E (kr_cd (kr_i N x) True True))) 1 6 (fun _ => False) := by
  refine kr_ofX (by decide) (Nat.le_of_ble_eq_true rfl) ?_
  intro p e s m below meth c ls hx hb hml hr hts hown hlocks ht hv hl
  obtain ⟨⟨hP, hK⟩, hT⟩ := hv
  have hown : s.vm.findClass RX0 = some m.cls := hown
  have hl : lv_has ls 2 [(0, .ref h), (1, .int x)] := hl
  refine lv_aload_n hx hb dX0_rankOf_0 rfl (lv_at hl 0 rfl) ?_
  refine lv_iload_n hx hb dX0_rankOf_1 rfl (lv_at hl 1 rfl) ?_
  by_cases hk : kr_i N x
  · exact absurd (kr_cd0 hk trivial trivial) hc
  · rw [kr_cd1 hk, kr_E1]
    exact kr_xV (n := 1) (As := [.int x]) (rest := []) ⟨hx, hb, hml, hown, hts⟩ (x_X0_checkKnot l hl0 D cy h a N L A x hk) kg_RX0_59 ⟨rfl, rfl⟩ (by decide +kernel) ⟨Nat.le_of_ble_eq_true rfl, Nat.le_of_ble_eq_true rfl⟩ (kr_pvx hP hK hT (fun _ _ => rfl)) rfl hl.1 rfl (Nat.le_of_ble_eq_true rfl) dX0_rankOf_2 ⟨Nat.le_of_ble_eq_true rfl, Nat.le_of_ble_eq_true rfl⟩ ht hlocks
set_option maxHeartbeats 4000000 in
set_option maxRecDepth 100000 in
theorem x_X0_fallsApartAt (l : Launch) (hl0 : l.stackTraces = false) (D : va_G) (cy : ClassId) (h : Nat) (a : Nat → Nat) (N L : Nat) (A : Nat → Nat → Int32) (x : Int32) (hc : ¬ kr_cd (kr_i N x) True True = 0) : vx_Met l yX0_fallsApartAt (Cond.code yX0_fallsApartAt cX0_fallsApartAt 5 (some .int) :: kr_all) ({ frames := 7, cells := 1, slots := 6, locals := 111 }) (va_Pc [.ref h, .int x] (kr_RT D (kr_W0 cy h a N L A) cy)) kr_no (kr_XC (kr_E (kr_cd (kr_i N x) True True))) 1 6 (fun _ => False) := by
  refine kr_ofX (by decide) (Nat.le_of_ble_eq_true rfl) ?_
  intro p e s m below meth c ls hx hb hml hr hts hown hlocks ht hv hl
  obtain ⟨⟨hP, hK⟩, hT⟩ := hv
  have hown : s.vm.findClass RX0 = some m.cls := hown
  have hl : lv_has ls 5 [(0, .ref h), (1, .int x)] := hl
  refine lv_aload_n hx hb dX0_fallsApartAt_0 rfl (lv_at hl 0 rfl) ?_
  refine lv_iload_n hx hb dX0_fallsApartAt_1 rfl (lv_at hl 1 rfl) ?_
  by_cases hk : kr_i N x
  · exact absurd (kr_cd0 hk trivial trivial) hc
  · rw [kr_cd1 hk, kr_E1]
    exact kr_xV (n := 1) (As := [.int x]) (rest := []) ⟨hx, hb, hml, hown, hts⟩ (x_X0_checkKnot l hl0 D cy h a N L A x hk) kg_RX0_59 ⟨rfl, rfl⟩ (by decide +kernel) ⟨Nat.le_of_ble_eq_true rfl, Nat.le_of_ble_eq_true rfl⟩ (kr_pvx hP hK hT (fun _ _ => rfl)) rfl hl.1 rfl (Nat.le_of_ble_eq_true rfl) dX0_fallsApartAt_2 ⟨Nat.le_of_ble_eq_true rfl, Nat.le_of_ble_eq_true rfl⟩ ht hlocks
set_option maxHeartbeats 4000000 in
set_option maxRecDepth 100000 in
theorem x_X0_knotsOf (l : Launch) (hl0 : l.stackTraces = false) (D : va_G) (cy : ClassId) (h : Nat) (a : Nat → Nat) (N L : Nat) (A : Nat → Nat → Int32) (x : Int32) (hc : ¬ kr_cd (x = 0 ∨ x = 1) True True = 0) : vx_Met l yX0_knotsOf (Cond.code yX0_knotsOf cX0_knotsOf 2 (some .int) :: kr_all) ({ frames := 7, cells := 1, slots := 6, locals := 110 }) (va_Pc [.ref h, .int x] (kr_RT D (kr_W0 cy h a N L A) cy)) kr_no (kr_XC (kr_E (kr_cd (x = 0 ∨ x = 1) True True))) 1 6 (fun _ => False) := by
  refine kr_ofX (by decide) (Nat.le_of_ble_eq_true rfl) ?_
  intro p e s m below meth c ls hx hb hml hr hts hown hlocks ht hv hl
  obtain ⟨⟨hP, hK⟩, hT⟩ := hv
  have hown : s.vm.findClass RX0 = some m.cls := hown
  have hl : lv_has ls 2 [(0, .ref h), (1, .int x)] := hl
  refine lv_iload_n hx hb dX0_knotsOf_0 rfl (lv_at hl 1 rfl) ?_
  by_cases hk : x = 0 ∨ x = 1
  · exact absurd (kr_cd0 hk trivial trivial) hc
  · rw [kr_cd1 hk, kr_E1]
    exact kr_xS (n := 1) (As := [.int x]) (rest := []) ⟨hx, hb, hml, hown, hts⟩ (x_X0_checkKind l hl0 x hk) kg_RX0_41 ⟨rfl, rfl⟩ (by decide +kernel) ⟨Nat.le_of_ble_eq_true rfl, Nat.le_of_ble_eq_true rfl⟩ (kr_psx hT (fun _ _ => rfl)) rfl hl.1 rfl (Nat.le_of_ble_eq_true rfl) dX0_knotsOf_1 ⟨Nat.le_of_ble_eq_true rfl, Nat.le_of_ble_eq_true rfl⟩ ht hlocks
set_option maxHeartbeats 4000000 in
set_option maxRecDepth 100000 in
theorem x_X0_knotAt (l : Launch) (hl0 : l.stackTraces = false) (D : va_G) (cy : ClassId) (h : Nat) (a : Nat → Nat) (N L : Nat) (A : Nat → Nat → Int32) (x y : Int32) (hN : N ≤ 16) (hc : ¬ kr_cd ((x = 0 ∨ x = 1) ∧ ¬ kr_kw A N x y N 0 = -1) True True = 0) : vx_Met l yX0_knotAt (Cond.code yX0_knotAt cX0_knotAt 4 (some .int) :: kr_all) ({ frames := 7, cells := 1, slots := 6, locals := 110 }) (va_Pc [.ref h, .int x, .int y] (kr_RT D (kr_W0 cy h a N L A) cy)) kr_no (kr_XC (kr_E (kr_cd ((x = 0 ∨ x = 1) ∧ ¬ kr_kw A N x y N 0 = -1) True True))) 1 6 (fun _ => False) := by
  refine kr_ofX (by decide) (Nat.le_of_ble_eq_true rfl) ?_
  intro p e s m below meth c ls hx hb hml hr hts hown hlocks ht hv hl
  obtain ⟨⟨hP, hK⟩, hT⟩ := hv
  have hown : s.vm.findClass RX0 = some m.cls := hown
  have hl : lv_has ls 4 [(0, .ref h), (1, .int x), (2, .int y)] := hl
  refine lv_iload_n hx hb dX0_knotAt_0 rfl (lv_at hl 1 rfl) ?_
  by_cases hk : x = 0 ∨ x = 1
  · refine kr_sV (n := 1) (As := [.int x]) (rest := []) ⟨hx, hb, hml, hown, hts⟩ (c_X0_checkKind l x (by assumption)) kg_RX0_41 ⟨rfl, rfl⟩ (by decide +kernel) ⟨Nat.le_of_ble_eq_true rfl, Nat.le_of_ble_eq_true rfl⟩ ⟨kr_blT, fun U hU hW => ⟨rfl, trivial⟩⟩ rfl hl.1 rfl (Nat.le_of_ble_eq_true rfl) dX0_knotAt_1 ⟨Nat.zero_le _, Nat.zero_le _⟩ ?_
    refine lv_aload_n hx hb dX0_knotAt_4 rfl (lv_at hl 0 rfl) ?_
    refine lv_iload_n hx hb dX0_knotAt_5 rfl (lv_at hl 1 rfl) ?_
    refine lv_iload_n hx hb dX0_knotAt_6 rfl (lv_at hl 2 rfl) ?_
    refine kr_vI (n := 2) (As := [.int x, .int y]) (rest := []) ⟨hx, hb, hml, hown, hts⟩ (c_X0_knotWithRank l D cy h a N L A x y (by omega)) kg_RX0_113 ⟨rfl, rfl⟩ (by decide +kernel) ⟨Nat.le_of_ble_eq_true rfl, Nat.le_of_ble_eq_true rfl⟩ (kr_pv0 hP hK) rfl hl.1 rfl (Nat.le_of_ble_eq_true rfl) dX0_knotAt_7 ⟨Nat.zero_le _, Nat.zero_le _⟩ (fun r9 e9 => ?_)
    subst e9
    refine lv_istore_n (lv' := [(3, .int (kr_kw A N x y N 0)), (0, .ref h), (1, .int x), (2, .int y)]) hx hb dX0_knotAt_10 rfl hl (by decide) rfl (fun ls hl => ?_)
    refine lv_iload_n hx hb dX0_knotAt_11 rfl (lv_at hl 0 rfl) ?_
    refine lv_iconst (v := -1) hx hb dX0_knotAt_12 (by decide) ?_
    refine lv_icmp_ne (tgt := 26) hx hb dX0_knotAt_13 (by decide) (fun c13 => ?_) (fun c13 => ?_)
    · exact absurd (kr_cd0 ⟨hk, c13⟩ trivial trivial) hc
    · rw [kr_cd1 (fun z => z.2 c13), kr_E1]
      exact kr_thrI hx hb hl0 hown hts hT (List.mem_of_getElem? (i := 7) rfl) (hl.1.trans hml.symm) dX0_knotAt_16 dX0_knotAt_19 dX0_knotAt_20 dX0_knotAt_22 dX0_knotAt_25 ht ⟨by decide, by decide, by decide, by decide⟩ hlocks
  · rw [kr_cd1 (fun z => hk z.1), kr_E1]
    exact kr_xS (n := 1) (As := [.int x]) (rest := []) ⟨hx, hb, hml, hown, hts⟩ (x_X0_checkKind l hl0 x hk) kg_RX0_41 ⟨rfl, rfl⟩ (by decide +kernel) ⟨Nat.le_of_ble_eq_true rfl, Nat.le_of_ble_eq_true rfl⟩ (kr_psx hT (fun _ _ => rfl)) rfl hl.1 rfl (Nat.le_of_ble_eq_true rfl) dX0_knotAt_1 ⟨Nat.le_of_ble_eq_true rfl, Nat.le_of_ble_eq_true rfl⟩ ht hlocks
set_option maxHeartbeats 4000000 in
set_option maxRecDepth 100000 in
theorem x_X0_formOf (l : Launch) (hl0 : l.stackTraces = false) (D : va_G) (cy : ClassId) (h : Nat) (a : Nat → Nat) (N L : Nat) (A : Nat → Nat → Int32) (x y : Int32) (hN : N ≤ 16) (hc : ¬ kr_cd (kr_i N x) (kr_o y) True = 0) : vx_Met l yX0_formOf (Cond.code yX0_formOf cX0_formOf 3 (some .int) :: kr_all) ({ frames := 7, cells := 1, slots := 6, locals := 111 }) (va_Pc [.ref h, .int x, .int y] (kr_RT D (kr_W0 cy h a N L A) cy)) kr_no (kr_XC (kr_E (kr_cd (kr_i N x) (kr_o y) True))) 1 6 (fun _ => False) := by
  refine kr_ofX (by decide) (Nat.le_of_ble_eq_true rfl) ?_
  intro p e s m below meth c ls hx hb hml hr hts hown hlocks ht hv hl
  obtain ⟨⟨hP, hK⟩, hT⟩ := hv
  have hown : s.vm.findClass RX0 = some m.cls := hown
  have hl : lv_has ls 3 [(0, .ref h), (1, .int x), (2, .int y)] := hl
  refine lv_aload_n hx hb dX0_formOf_0 rfl (lv_at hl 0 rfl) ?_
  refine lv_iload_n hx hb dX0_formOf_1 rfl (lv_at hl 1 rfl) ?_
  by_cases hk : kr_i N x
  · obtain ⟨k, hk2, rfl⟩ := kr_inN hN hk
    refine kr_vV (n := 1) (As := [.int (nI k)]) (rest := []) ⟨hx, hb, hml, hown, hts⟩ (c_X0_checkKnot l D cy h a N L A k (by omega) (by omega)) kg_RX0_59 ⟨rfl, rfl⟩ (by decide +kernel) ⟨Nat.le_of_ble_eq_true rfl, Nat.le_of_ble_eq_true rfl⟩ (kr_pv0 hP hK) rfl hl.1 rfl (Nat.le_of_ble_eq_true rfl) dX0_formOf_2 ⟨Nat.zero_le _, Nat.zero_le _⟩ ?_
    refine lv_iload_n hx hb dX0_formOf_5 rfl (lv_at hl 2 rfl) ?_
    by_cases ho : kr_o y
    · exact absurd (kr_cd0 hk ho trivial) hc
    · rw [kr_cd2 hk ho, kr_E2]
      exact kr_xS (n := 1) (As := [.int y]) (rest := []) ⟨hx, hb, hml, hown, hts⟩ (x_X0_checkLoad l hl0 y ho) kg_RX0_62 ⟨rfl, rfl⟩ (by decide +kernel) ⟨Nat.le_of_ble_eq_true rfl, Nat.le_of_ble_eq_true rfl⟩ (kr_psx hT (fun _ _ => rfl)) rfl hl.1 rfl (Nat.le_of_ble_eq_true rfl) dX0_formOf_6 ⟨Nat.le_of_ble_eq_true rfl, Nat.le_of_ble_eq_true rfl⟩ ht hlocks
  · rw [kr_cd1 hk, kr_E1]
    exact kr_xV (n := 1) (As := [.int x]) (rest := []) ⟨hx, hb, hml, hown, hts⟩ (x_X0_checkKnot l hl0 D cy h a N L A x hk) kg_RX0_59 ⟨rfl, rfl⟩ (by decide +kernel) ⟨Nat.le_of_ble_eq_true rfl, Nat.le_of_ble_eq_true rfl⟩ (kr_pvx hP hK hT (fun _ _ => rfl)) rfl hl.1 rfl (Nat.le_of_ble_eq_true rfl) dX0_formOf_2 ⟨Nat.le_of_ble_eq_true rfl, Nat.le_of_ble_eq_true rfl⟩ ht hlocks
set_option maxHeartbeats 4000000 in
set_option maxRecDepth 100000 in
theorem x_X0_spills (l : Launch) (hl0 : l.stackTraces = false) (D : va_G) (cy : ClassId) (h : Nat) (a : Nat → Nat) (N L : Nat) (A : Nat → Nat → Int32) (x y : Int32) (hN : N ≤ 16) (hc : ¬ kr_cd (kr_i N x) (kr_o y) True = 0) : vx_Met l yX0_spills (Cond.code yX0_spills cX0_spills 5 (some .int) :: kr_all) ({ frames := 7, cells := 1, slots := 6, locals := 111 }) (va_Pc [.ref h, .int x, .int y] (kr_RT D (kr_W0 cy h a N L A) cy)) kr_no (kr_XC (kr_E (kr_cd (kr_i N x) (kr_o y) True))) 1 6 (fun _ => False) := by
  refine kr_ofX (by decide) (Nat.le_of_ble_eq_true rfl) ?_
  intro p e s m below meth c ls hx hb hml hr hts hown hlocks ht hv hl
  obtain ⟨⟨hP, hK⟩, hT⟩ := hv
  have hown : s.vm.findClass RX0 = some m.cls := hown
  have hl : lv_has ls 5 [(0, .ref h), (1, .int x), (2, .int y)] := hl
  refine lv_aload_n hx hb dX0_spills_0 rfl (lv_at hl 0 rfl) ?_
  refine lv_iload_n hx hb dX0_spills_1 rfl (lv_at hl 1 rfl) ?_
  by_cases hk : kr_i N x
  · obtain ⟨k, hk2, rfl⟩ := kr_inN hN hk
    refine kr_vV (n := 1) (As := [.int (nI k)]) (rest := []) ⟨hx, hb, hml, hown, hts⟩ (c_X0_checkKnot l D cy h a N L A k (by omega) (by omega)) kg_RX0_59 ⟨rfl, rfl⟩ (by decide +kernel) ⟨Nat.le_of_ble_eq_true rfl, Nat.le_of_ble_eq_true rfl⟩ (kr_pv0 hP hK) rfl hl.1 rfl (Nat.le_of_ble_eq_true rfl) dX0_spills_2 ⟨Nat.zero_le _, Nat.zero_le _⟩ ?_
    refine lv_iload_n hx hb dX0_spills_5 rfl (lv_at hl 2 rfl) ?_
    by_cases ho : kr_o y
    · exact absurd (kr_cd0 hk ho trivial) hc
    · rw [kr_cd2 hk ho, kr_E2]
      exact kr_xS (n := 1) (As := [.int y]) (rest := []) ⟨hx, hb, hml, hown, hts⟩ (x_X0_checkLoad l hl0 y ho) kg_RX0_62 ⟨rfl, rfl⟩ (by decide +kernel) ⟨Nat.le_of_ble_eq_true rfl, Nat.le_of_ble_eq_true rfl⟩ (kr_psx hT (fun _ _ => rfl)) rfl hl.1 rfl (Nat.le_of_ble_eq_true rfl) dX0_spills_6 ⟨Nat.le_of_ble_eq_true rfl, Nat.le_of_ble_eq_true rfl⟩ ht hlocks
  · rw [kr_cd1 hk, kr_E1]
    exact kr_xV (n := 1) (As := [.int x]) (rest := []) ⟨hx, hb, hml, hown, hts⟩ (x_X0_checkKnot l hl0 D cy h a N L A x hk) kg_RX0_59 ⟨rfl, rfl⟩ (by decide +kernel) ⟨Nat.le_of_ble_eq_true rfl, Nat.le_of_ble_eq_true rfl⟩ (kr_pvx hP hK hT (fun _ _ => rfl)) rfl hl.1 rfl (Nat.le_of_ble_eq_true rfl) dX0_spills_2 ⟨Nat.le_of_ble_eq_true rfl, Nat.le_of_ble_eq_true rfl⟩ ht hlocks
set_option maxHeartbeats 4000000 in
set_option maxRecDepth 100000 in
theorem x_X0_ropesOf (l : Launch) (hl0 : l.stackTraces = false) (D : va_G) (cy : ClassId) (h : Nat) (a : Nat → Nat) (N L : Nat) (A : Nat → Nat → Int32) (x : Int32) (hc : ¬ kr_cd (kr_i L x) True True = 0) : vx_Met l yX0_ropesOf (Cond.code yX0_ropesOf cX0_ropesOf 2 (some .int) :: kr_all) ({ frames := 7, cells := 1, slots := 6, locals := 111 }) (va_Pc [.ref h, .int x] (kr_RT D (kr_W0 cy h a N L A) cy)) kr_no (kr_XC (kr_E (kr_cd (kr_i L x) True True))) 1 6 (fun _ => False) := by
  refine kr_ofX (by decide) (Nat.le_of_ble_eq_true rfl) ?_
  intro p e s m below meth c ls hx hb hml hr hts hown hlocks ht hv hl
  obtain ⟨⟨hP, hK⟩, hT⟩ := hv
  have hown : s.vm.findClass RX0 = some m.cls := hown
  have hl : lv_has ls 2 [(0, .ref h), (1, .int x)] := hl
  refine lv_aload_n hx hb dX0_ropesOf_0 rfl (lv_at hl 0 rfl) ?_
  refine lv_iload_n hx hb dX0_ropesOf_1 rfl (lv_at hl 1 rfl) ?_
  by_cases hk : kr_i L x
  · exact absurd (kr_cd0 hk trivial trivial) hc
  · rw [kr_cd1 hk, kr_E1]
    exact kr_xV (n := 1) (As := [.int x]) (rest := []) ⟨hx, hb, hml, hown, hts⟩ (x_X0_checkLine l hl0 D cy h a N L A x hk) kg_RX0_82 ⟨rfl, rfl⟩ (by decide +kernel) ⟨Nat.le_of_ble_eq_true rfl, Nat.le_of_ble_eq_true rfl⟩ (kr_pvx hP hK hT (fun _ _ => rfl)) rfl hl.1 rfl (Nat.le_of_ble_eq_true rfl) dX0_ropesOf_2 ⟨Nat.le_of_ble_eq_true rfl, Nat.le_of_ble_eq_true rfl⟩ ht hlocks
set_option maxHeartbeats 4000000 in
set_option maxRecDepth 100000 in
theorem x_X0_weakestPlace (l : Launch) (hl0 : l.stackTraces = false) (D : va_G) (cy : ClassId) (h : Nat) (a : Nat → Nat) (N L : Nat) (A : Nat → Nat → Int32) (x : Int32) (hc : ¬ kr_cd (kr_i L x) True True = 0) : vx_Met l yX0_weakestPlace (Cond.code yX0_weakestPlace cX0_weakestPlace 6 (some .int) :: kr_all) ({ frames := 7, cells := 1, slots := 6, locals := 111 }) (va_Pc [.ref h, .int x] (kr_RT D (kr_W0 cy h a N L A) cy)) kr_no (kr_XC (kr_E (kr_cd (kr_i L x) True True))) 1 6 (fun _ => False) := by
  refine kr_ofX (by decide) (Nat.le_of_ble_eq_true rfl) ?_
  intro p e s m below meth c ls hx hb hml hr hts hown hlocks ht hv hl
  obtain ⟨⟨hP, hK⟩, hT⟩ := hv
  have hown : s.vm.findClass RX0 = some m.cls := hown
  have hl : lv_has ls 6 [(0, .ref h), (1, .int x)] := hl
  refine lv_aload_n hx hb dX0_weakestPlace_0 rfl (lv_at hl 0 rfl) ?_
  refine lv_iload_n hx hb dX0_weakestPlace_1 rfl (lv_at hl 1 rfl) ?_
  by_cases hk : kr_i L x
  · exact absurd (kr_cd0 hk trivial trivial) hc
  · rw [kr_cd1 hk, kr_E1]
    exact kr_xV (n := 1) (As := [.int x]) (rest := []) ⟨hx, hb, hml, hown, hts⟩ (x_X0_checkLine l hl0 D cy h a N L A x hk) kg_RX0_82 ⟨rfl, rfl⟩ (by decide +kernel) ⟨Nat.le_of_ble_eq_true rfl, Nat.le_of_ble_eq_true rfl⟩ (kr_pvx hP hK hT (fun _ _ => rfl)) rfl hl.1 rfl (Nat.le_of_ble_eq_true rfl) dX0_weakestPlace_2 ⟨Nat.le_of_ble_eq_true rfl, Nat.le_of_ble_eq_true rfl⟩ ht hlocks
set_option maxHeartbeats 4000000 in
set_option maxRecDepth 100000 in
theorem x_X0_holdsUpTo (l : Launch) (hl0 : l.stackTraces = false) (D : va_G) (cy : ClassId) (h : Nat) (a : Nat → Nat) (N L : Nat) (A : Nat → Nat → Int32) (x : Int32) (hc : ¬ kr_cd (kr_i L x) True True = 0) : vx_Met l yX0_holdsUpTo (Cond.code yX0_holdsUpTo cX0_holdsUpTo 2 (some .int) :: kr_all) ({ frames := 7, cells := 1, slots := 6, locals := 111 }) (va_Pc [.ref h, .int x] (kr_RT D (kr_W0 cy h a N L A) cy)) kr_no (kr_XC (kr_E (kr_cd (kr_i L x) True True))) 1 6 (fun _ => False) := by
  refine kr_ofX (by decide) (Nat.le_of_ble_eq_true rfl) ?_
  intro p e s m below meth c ls hx hb hml hr hts hown hlocks ht hv hl
  obtain ⟨⟨hP, hK⟩, hT⟩ := hv
  have hown : s.vm.findClass RX0 = some m.cls := hown
  have hl : lv_has ls 2 [(0, .ref h), (1, .int x)] := hl
  refine lv_aload_n hx hb dX0_holdsUpTo_0 rfl (lv_at hl 0 rfl) ?_
  refine lv_iload_n hx hb dX0_holdsUpTo_1 rfl (lv_at hl 1 rfl) ?_
  by_cases hk : kr_i L x
  · exact absurd (kr_cd0 hk trivial trivial) hc
  · rw [kr_cd1 hk, kr_E1]
    exact kr_xV (n := 1) (As := [.int x]) (rest := []) ⟨hx, hb, hml, hown, hts⟩ (x_X0_checkLine l hl0 D cy h a N L A x hk) kg_RX0_82 ⟨rfl, rfl⟩ (by decide +kernel) ⟨Nat.le_of_ble_eq_true rfl, Nat.le_of_ble_eq_true rfl⟩ (kr_pvx hP hK hT (fun _ _ => rfl)) rfl hl.1 rfl (Nat.le_of_ble_eq_true rfl) dX0_holdsUpTo_2 ⟨Nat.le_of_ble_eq_true rfl, Nat.le_of_ble_eq_true rfl⟩ ht hlocks
set_option maxHeartbeats 4000000 in
set_option maxRecDepth 100000 in
theorem x_X0_knotOf (l : Launch) (hl0 : l.stackTraces = false) (D : va_G) (cy : ClassId) (h : Nat) (a : Nat → Nat) (N L : Nat) (A : Nat → Nat → Int32) (x y : Int32) (hw : kr_wf N L A) (hc : ¬ kr_cd (kr_q L A x y) True True = 0) : vx_Met l yX0_knotOf (Cond.code yX0_knotOf cX0_knotOf 3 (some .int) :: kr_all) ({ frames := 8, cells := 1, slots := 6, locals := 133 }) (va_Pc [.ref h, .int x, .int y] (kr_RT D (kr_W0 cy h a N L A) cy)) kr_no (kr_XC (kr_E (kr_cd (kr_q L A x y) True True))) 1 6 (fun _ => False) := by
  refine kr_ofX (by decide) (Nat.le_of_ble_eq_true rfl) ?_
  intro p e s m below meth c ls hx hb hml hr hts hown hlocks ht hv hl
  obtain ⟨⟨hP, hK⟩, hT⟩ := hv
  have hown : s.vm.findClass RX0 = some m.cls := hown
  have hl : lv_has ls 3 [(0, .ref h), (1, .int x), (2, .int y)] := hl
  refine lv_aload_n hx hb dX0_knotOf_0 rfl (lv_at hl 0 rfl) ?_
  refine lv_iload_n hx hb dX0_knotOf_1 rfl (lv_at hl 1 rfl) ?_
  refine lv_iload_n hx hb dX0_knotOf_2 rfl (lv_at hl 2 rfl) ?_
  by_cases hk : kr_q L A x y
  · exact absurd (kr_cd0 hk trivial trivial) hc
  · rw [kr_cd1 hk, kr_E1]
    exact kr_xV (n := 2) (As := [.int x, .int y]) (rest := []) ⟨hx, hb, hml, hown, hts⟩ (x_X0_checkPlace l hl0 D cy h a N L A x y hw hk) kg_RX0_90 ⟨rfl, rfl⟩ (by decide +kernel) ⟨Nat.le_of_ble_eq_true rfl, Nat.le_of_ble_eq_true rfl⟩ (kr_pvx hP hK hT (fun _ _ => rfl)) rfl hl.1 rfl (Nat.le_of_ble_eq_true rfl) dX0_knotOf_3 ⟨Nat.le_of_ble_eq_true rfl, Nat.le_of_ble_eq_true rfl⟩ ht hlocks
set_option maxHeartbeats 4000000 in
set_option maxRecDepth 100000 in
theorem x_X0_strengthAt (l : Launch) (hl0 : l.stackTraces = false) (D : va_G) (cy : ClassId) (h : Nat) (a : Nat → Nat) (N L : Nat) (A : Nat → Nat → Int32) (x y : Int32) (hw : kr_wf N L A) (hc : ¬ kr_cd (kr_q L A x y) True True = 0) : vx_Met l yX0_strengthAt (Cond.code yX0_strengthAt cX0_strengthAt 3 (some .int) :: kr_all) ({ frames := 8, cells := 1, slots := 6, locals := 133 }) (va_Pc [.ref h, .int x, .int y] (kr_RT D (kr_W0 cy h a N L A) cy)) kr_no (kr_XC (kr_E (kr_cd (kr_q L A x y) True True))) 1 6 (fun _ => False) := by
  refine kr_ofX (by decide) (Nat.le_of_ble_eq_true rfl) ?_
  intro p e s m below meth c ls hx hb hml hr hts hown hlocks ht hv hl
  obtain ⟨⟨hP, hK⟩, hT⟩ := hv
  have hown : s.vm.findClass RX0 = some m.cls := hown
  have hl : lv_has ls 3 [(0, .ref h), (1, .int x), (2, .int y)] := hl
  refine lv_aload_n hx hb dX0_strengthAt_0 rfl (lv_at hl 0 rfl) ?_
  refine lv_iload_n hx hb dX0_strengthAt_1 rfl (lv_at hl 1 rfl) ?_
  refine lv_iload_n hx hb dX0_strengthAt_2 rfl (lv_at hl 2 rfl) ?_
  by_cases hk : kr_q L A x y
  · exact absurd (kr_cd0 hk trivial trivial) hc
  · rw [kr_cd1 hk, kr_E1]
    exact kr_xV (n := 2) (As := [.int x, .int y]) (rest := []) ⟨hx, hb, hml, hown, hts⟩ (x_X0_checkPlace l hl0 D cy h a N L A x y hw hk) kg_RX0_90 ⟨rfl, rfl⟩ (by decide +kernel) ⟨Nat.le_of_ble_eq_true rfl, Nat.le_of_ble_eq_true rfl⟩ (kr_pvx hP hK hT (fun _ _ => rfl)) rfl hl.1 rfl (Nat.le_of_ble_eq_true rfl) dX0_strengthAt_3 ⟨Nat.le_of_ble_eq_true rfl, Nat.le_of_ble_eq_true rfl⟩ ht hlocks
set_option maxHeartbeats 4000000 in
set_option maxRecDepth 100000 in
theorem x_X0_bestKnot (l : Launch) (hl0 : l.stackTraces = false) (D : va_G) (cy : ClassId) (h : Nat) (a : Nat → Nat) (N L : Nat) (A : Nat → Nat → Int32) (x y : Int32) (hw : kr_wf N L A) (hc : ¬ kr_cd (kr_q L A x y) True True = 0) : vx_Met l yX0_bestKnot (Cond.code yX0_bestKnot cX0_bestKnot 10 (some .int) :: kr_all) ({ frames := 8, cells := 1, slots := 6, locals := 133 }) (va_Pc [.ref h, .int x, .int y] (kr_RT D (kr_W0 cy h a N L A) cy)) kr_no (kr_XC (kr_E (kr_cd (kr_q L A x y) True True))) 1 6 (fun _ => False) := by
  refine kr_ofX (by decide) (Nat.le_of_ble_eq_true rfl) ?_
  intro p e s m below meth c ls hx hb hml hr hts hown hlocks ht hv hl
  obtain ⟨⟨hP, hK⟩, hT⟩ := hv
  have hown : s.vm.findClass RX0 = some m.cls := hown
  have hl : lv_has ls 10 [(0, .ref h), (1, .int x), (2, .int y)] := hl
  refine lv_aload_n hx hb dX0_bestKnot_0 rfl (lv_at hl 0 rfl) ?_
  refine lv_iload_n hx hb dX0_bestKnot_1 rfl (lv_at hl 1 rfl) ?_
  refine lv_iload_n hx hb dX0_bestKnot_2 rfl (lv_at hl 2 rfl) ?_
  by_cases hk : kr_q L A x y
  · exact absurd (kr_cd0 hk trivial trivial) hc
  · rw [kr_cd1 hk, kr_E1]
    exact kr_xV (n := 2) (As := [.int x, .int y]) (rest := []) ⟨hx, hb, hml, hown, hts⟩ (x_X0_checkPlace l hl0 D cy h a N L A x y hw hk) kg_RX0_90 ⟨rfl, rfl⟩ (by decide +kernel) ⟨Nat.le_of_ble_eq_true rfl, Nat.le_of_ble_eq_true rfl⟩ (kr_pvx hP hK hT (fun _ _ => rfl)) rfl hl.1 rfl (Nat.le_of_ble_eq_true rfl) dX0_bestKnot_3 ⟨Nat.le_of_ble_eq_true rfl, Nat.le_of_ble_eq_true rfl⟩ ht hlocks
set_option maxHeartbeats 4000000 in
set_option maxRecDepth 100000 in
theorem x_X0_holds (l : Launch) (hl0 : l.stackTraces = false) (D : va_G) (cy : ClassId) (h : Nat) (a : Nat → Nat) (N L : Nat) (A : Nat → Nat → Int32) (x y : Int32) (hL : L ≤ 6) (hc : ¬ kr_cd (kr_i L x) (kr_o y) True = 0) : vx_Met l yX0_holds (Cond.code yX0_holds cX0_holds 3 (some .boolean) :: kr_all) ({ frames := 7, cells := 1, slots := 6, locals := 111 }) (va_Pc [.ref h, .int x, .int y] (kr_RT D (kr_W0 cy h a N L A) cy)) kr_no (kr_XC (kr_E (kr_cd (kr_i L x) (kr_o y) True))) 1 6 (fun _ => False) := by
  refine kr_ofX (by decide) (Nat.le_of_ble_eq_true rfl) ?_
  intro p e s m below meth c ls hx hb hml hr hts hown hlocks ht hv hl
  obtain ⟨⟨hP, hK⟩, hT⟩ := hv
  have hown : s.vm.findClass RX0 = some m.cls := hown
  have hl : lv_has ls 3 [(0, .ref h), (1, .int x), (2, .int y)] := hl
  refine lv_aload_n hx hb dX0_holds_0 rfl (lv_at hl 0 rfl) ?_
  refine lv_iload_n hx hb dX0_holds_1 rfl (lv_at hl 1 rfl) ?_
  by_cases hk : kr_i L x
  · obtain ⟨q, hq, rfl⟩ := kr_inL hL hk
    refine kr_vV (n := 1) (As := [.int (nI q)]) (rest := []) ⟨hx, hb, hml, hown, hts⟩ (c_X0_checkLine l D cy h a N L A q (by omega) (by omega)) kg_RX0_82 ⟨rfl, rfl⟩ (by decide +kernel) ⟨Nat.le_of_ble_eq_true rfl, Nat.le_of_ble_eq_true rfl⟩ (kr_pv0 hP hK) rfl hl.1 rfl (Nat.le_of_ble_eq_true rfl) dX0_holds_2 ⟨Nat.zero_le _, Nat.zero_le _⟩ ?_
    refine lv_iload_n hx hb dX0_holds_5 rfl (lv_at hl 2 rfl) ?_
    by_cases ho : kr_o y
    · exact absurd (kr_cd0 hk ho trivial) hc
    · rw [kr_cd2 hk ho, kr_E2]
      exact kr_xS (n := 1) (As := [.int y]) (rest := []) ⟨hx, hb, hml, hown, hts⟩ (x_X0_checkLoad l hl0 y ho) kg_RX0_62 ⟨rfl, rfl⟩ (by decide +kernel) ⟨Nat.le_of_ble_eq_true rfl, Nat.le_of_ble_eq_true rfl⟩ (kr_psx hT (fun _ _ => rfl)) rfl hl.1 rfl (Nat.le_of_ble_eq_true rfl) dX0_holds_6 ⟨Nat.le_of_ble_eq_true rfl, Nat.le_of_ble_eq_true rfl⟩ ht hlocks
  · rw [kr_cd1 hk, kr_E1]
    exact kr_xV (n := 1) (As := [.int x]) (rest := []) ⟨hx, hb, hml, hown, hts⟩ (x_X0_checkLine l hl0 D cy h a N L A x hk) kg_RX0_82 ⟨rfl, rfl⟩ (by decide +kernel) ⟨Nat.le_of_ble_eq_true rfl, Nat.le_of_ble_eq_true rfl⟩ (kr_pvx hP hK hT (fun _ _ => rfl)) rfl hl.1 rfl (Nat.le_of_ble_eq_true rfl) dX0_holds_2 ⟨Nat.le_of_ble_eq_true rfl, Nat.le_of_ble_eq_true rfl⟩ ht hlocks
set_option maxHeartbeats 4000000 in
set_option maxRecDepth 100000 in
theorem x_X0_wouldGiveWay (l : Launch) (hl0 : l.stackTraces = false) (D : va_G) (cy : ClassId) (h : Nat) (a : Nat → Nat) (N L : Nat) (A : Nat → Nat → Int32) (x y : Int32) (hL : L ≤ 6) (hc : ¬ kr_cd (kr_i L x) (kr_o y) True = 0) : vx_Met l yX0_wouldGiveWay (Cond.code yX0_wouldGiveWay cX0_wouldGiveWay 3 (some .int) :: kr_all) ({ frames := 7, cells := 1, slots := 6, locals := 111 }) (va_Pc [.ref h, .int x, .int y] (kr_RT D (kr_W0 cy h a N L A) cy)) kr_no (kr_XC (kr_E (kr_cd (kr_i L x) (kr_o y) True))) 1 6 (fun _ => False) := by
  refine kr_ofX (by decide) (Nat.le_of_ble_eq_true rfl) ?_
  intro p e s m below meth c ls hx hb hml hr hts hown hlocks ht hv hl
  obtain ⟨⟨hP, hK⟩, hT⟩ := hv
  have hown : s.vm.findClass RX0 = some m.cls := hown
  have hl : lv_has ls 3 [(0, .ref h), (1, .int x), (2, .int y)] := hl
  refine lv_aload_n hx hb dX0_wouldGiveWay_0 rfl (lv_at hl 0 rfl) ?_
  refine lv_iload_n hx hb dX0_wouldGiveWay_1 rfl (lv_at hl 1 rfl) ?_
  by_cases hk : kr_i L x
  · obtain ⟨q, hq, rfl⟩ := kr_inL hL hk
    refine kr_vV (n := 1) (As := [.int (nI q)]) (rest := []) ⟨hx, hb, hml, hown, hts⟩ (c_X0_checkLine l D cy h a N L A q (by omega) (by omega)) kg_RX0_82 ⟨rfl, rfl⟩ (by decide +kernel) ⟨Nat.le_of_ble_eq_true rfl, Nat.le_of_ble_eq_true rfl⟩ (kr_pv0 hP hK) rfl hl.1 rfl (Nat.le_of_ble_eq_true rfl) dX0_wouldGiveWay_2 ⟨Nat.zero_le _, Nat.zero_le _⟩ ?_
    refine lv_iload_n hx hb dX0_wouldGiveWay_5 rfl (lv_at hl 2 rfl) ?_
    by_cases ho : kr_o y
    · exact absurd (kr_cd0 hk ho trivial) hc
    · rw [kr_cd2 hk ho, kr_E2]
      exact kr_xS (n := 1) (As := [.int y]) (rest := []) ⟨hx, hb, hml, hown, hts⟩ (x_X0_checkLoad l hl0 y ho) kg_RX0_62 ⟨rfl, rfl⟩ (by decide +kernel) ⟨Nat.le_of_ble_eq_true rfl, Nat.le_of_ble_eq_true rfl⟩ (kr_psx hT (fun _ _ => rfl)) rfl hl.1 rfl (Nat.le_of_ble_eq_true rfl) dX0_wouldGiveWay_6 ⟨Nat.le_of_ble_eq_true rfl, Nat.le_of_ble_eq_true rfl⟩ ht hlocks
  · rw [kr_cd1 hk, kr_E1]
    exact kr_xV (n := 1) (As := [.int x]) (rest := []) ⟨hx, hb, hml, hown, hts⟩ (x_X0_checkLine l hl0 D cy h a N L A x hk) kg_RX0_82 ⟨rfl, rfl⟩ (by decide +kernel) ⟨Nat.le_of_ble_eq_true rfl, Nat.le_of_ble_eq_true rfl⟩ (kr_pvx hP hK hT (fun _ _ => rfl)) rfl hl.1 rfl (Nat.le_of_ble_eq_true rfl) dX0_wouldGiveWay_2 ⟨Nat.le_of_ble_eq_true rfl, Nat.le_of_ble_eq_true rfl⟩ ht hlocks
set_option maxHeartbeats 4000000 in
set_option maxRecDepth 100000 in
theorem x_X0_addKnot (l : Launch) (hl0 : l.stackTraces = false) (D : va_G) (cy : ClassId) (h : Nat) (a : Nat → Nat) (N L : Nat) (A : Nat → Nat → Int32) (x y z : Int32) (hN : N ≤ 16) (hc : ¬ kr_cd (x = 0 ∨ x = 1) ((¬ y < 10 ∧ ¬ 100 < y) ∧ (¬ z < 1 ∧ ¬ 9 < z)) (N < 16) = 0) : vx_Met l yX0_addKnot (Cond.code yX0_addKnot cX0_addKnot 5 (some .int) :: kr_all) ({ frames := 7, cells := 1, slots := 6, locals := 110 }) (va_Pc [.ref h, .int x, .int y, .int z] (kr_RT D (kr_W0 cy h a N L A) cy)) kr_no (kr_XC (kr_E (kr_cd (x = 0 ∨ x = 1) ((¬ y < 10 ∧ ¬ 100 < y) ∧ (¬ z < 1 ∧ ¬ 9 < z)) (N < 16)))) 1 6 (fun _ => False) := by
  refine kr_ofX (by decide) (Nat.le_of_ble_eq_true rfl) ?_
  intro p e s m below meth c ls hx hb hml hr hts hown hlocks ht hv hl
  obtain ⟨⟨hP, hK⟩, hT⟩ := hv
  have hown : s.vm.findClass RX0 = some m.cls := hown
  have hl : lv_has ls 5 [(0, .ref h), (1, .int x), (2, .int y), (3, .int z)] := hl
  refine lv_iload_n hx hb dX0_addKnot_0 rfl (lv_at hl 1 rfl) ?_
  by_cases hk : x = 0 ∨ x = 1
  · refine kr_sV (n := 1) (As := [.int x]) (rest := []) ⟨hx, hb, hml, hown, hts⟩ (c_X0_checkKind l x (by assumption)) kg_RX0_41 ⟨rfl, rfl⟩ (by decide +kernel) ⟨Nat.le_of_ble_eq_true rfl, Nat.le_of_ble_eq_true rfl⟩ ⟨kr_blT, fun U hU hW => ⟨rfl, trivial⟩⟩ rfl hl.1 rfl (Nat.le_of_ble_eq_true rfl) dX0_addKnot_1 ⟨Nat.zero_le _, Nat.zero_le _⟩ ?_
    refine lv_iload_n hx hb dX0_addKnot_4 rfl (lv_at hl 2 rfl) ?_
    refine lv_bipush (v := 10) hx hb dX0_addKnot_5 (by decide) ?_
    refine lv_icmp_lt (tgt := 16) hx hb dX0_addKnot_7 (by decide) (fun c7 => ?_) (fun c7 => ?_)
    · rw [kr_cd2 hk (fun w => w.1.1 c7), kr_E2]
      exact kr_thrA hx hb hl0 hown hts hT (List.mem_of_getElem? (i := 0) rfl) (hl.1.trans hml.symm) dX0_addKnot_16 dX0_addKnot_19 dX0_addKnot_20 dX0_addKnot_22 dX0_addKnot_25 ht ⟨by decide, by decide, by decide, by decide⟩ hlocks
    · refine lv_iload_n hx hb dX0_addKnot_10 rfl (lv_at hl 2 rfl) ?_
      refine lv_bipush (v := 100) hx hb dX0_addKnot_11 (by decide) ?_
      refine lv_icmp_le (tgt := 26) hx hb dX0_addKnot_13 (by decide) (fun c13 => ?_) (fun c13 => ?_)
      · refine lv_iload_n hx hb dX0_addKnot_26 rfl (lv_at hl 3 rfl) ?_
        refine lv_iconst (v := 1) hx hb dX0_addKnot_27 (by decide) ?_
        refine lv_icmp_lt (tgt := 37) hx hb dX0_addKnot_28 (by decide) (fun c28 => ?_) (fun c28 => ?_)
        · rw [kr_cd2 hk (fun w => w.2.1 c28), kr_E2]
          exact kr_thrA hx hb hl0 hown hts hT (List.mem_of_getElem? (i := 1) rfl) (hl.1.trans hml.symm) dX0_addKnot_37 dX0_addKnot_40 dX0_addKnot_41 dX0_addKnot_43 dX0_addKnot_46 ht ⟨by decide, by decide, by decide, by decide⟩ hlocks
        · refine lv_iload_n hx hb dX0_addKnot_31 rfl (lv_at hl 3 rfl) ?_
          refine lv_bipush (v := 9) hx hb dX0_addKnot_32 (by decide) ?_
          refine lv_icmp_le (tgt := 47) hx hb dX0_addKnot_34 (by decide) (fun c34 => ?_) (fun c34 => ?_)
          · refine lv_aload_n hx hb dX0_addKnot_47 rfl (lv_at hl 0 rfl) ?_
            refine va_get (ci := 0) (v := .int (nI N)) (C := RX0) (T := TX0) (N := 10) hx hb hts kr_wsX0 hown hK hP 0 rfl rfl 5 (by decide) (hts _ kq_47) (fun _ h9 => h9) rfl dX0_addKnot_48 ?_
            refine lv_bipush (v := 16) hx hb dX0_addKnot_51 (by decide) ?_
            refine lv_icmp_lt (tgt := 66) hx hb dX0_addKnot_53 (by decide) (fun c53 => ?_) (fun c53 => ?_)
            · exact absurd (kr_cd0 hk ⟨⟨c7, kr_ngt2 c13⟩, ⟨c28, kr_ngt2 c34⟩⟩ ((nI_ltI (b := 16) (by omega) (by decide)).mp c53)) hc
            · rw [kr_cd3 hk ⟨⟨c7, kr_ngt2 c13⟩, ⟨c28, kr_ngt2 c34⟩⟩ (fun w => c53 (nI_lt (b := 16) w (by decide))), kr_E3]
              exact kr_thrS hx hb hl0 hown hts hT (List.mem_of_getElem? (i := 2) rfl) (hl.1.trans hml.symm) dX0_addKnot_56 dX0_addKnot_59 dX0_addKnot_60 dX0_addKnot_62 dX0_addKnot_65 ht ⟨by decide, by decide, by decide, by decide⟩ hlocks
          · rw [kr_cd2 hk (fun w => w.2.2 (kr_nle2 c34)), kr_E2]
            exact kr_thrA hx hb hl0 hown hts hT (List.mem_of_getElem? (i := 1) rfl) (hl.1.trans hml.symm) dX0_addKnot_37 dX0_addKnot_40 dX0_addKnot_41 dX0_addKnot_43 dX0_addKnot_46 ht ⟨by decide, by decide, by decide, by decide⟩ hlocks
      · rw [kr_cd2 hk (fun w => w.1.2 (kr_nle2 c13)), kr_E2]
        exact kr_thrA hx hb hl0 hown hts hT (List.mem_of_getElem? (i := 0) rfl) (hl.1.trans hml.symm) dX0_addKnot_16 dX0_addKnot_19 dX0_addKnot_20 dX0_addKnot_22 dX0_addKnot_25 ht ⟨by decide, by decide, by decide, by decide⟩ hlocks
  · rw [kr_cd1 hk, kr_E1]
    exact kr_xS (n := 1) (As := [.int x]) (rest := []) ⟨hx, hb, hml, hown, hts⟩ (x_X0_checkKind l hl0 x hk) kg_RX0_41 ⟨rfl, rfl⟩ (by decide +kernel) ⟨Nat.le_of_ble_eq_true rfl, Nat.le_of_ble_eq_true rfl⟩ (kr_psx hT (fun _ _ => rfl)) rfl hl.1 rfl (Nat.le_of_ble_eq_true rfl) dX0_addKnot_1 ⟨Nat.le_of_ble_eq_true rfl, Nat.le_of_ble_eq_true rfl⟩ ht hlocks
set_option maxHeartbeats 4000000 in
set_option maxRecDepth 100000 in
theorem x_X0_setSpill (l : Launch) (hl0 : l.stackTraces = false) (D : va_G) (cy : ClassId) (h : Nat) (a : Nat → Nat) (N L : Nat) (A : Nat → Nat → Int32) (x y z : Int32) (hN : N ≤ 16) (hc : ¬ kr_cd (kr_i N x) (kr_o y ∧ (¬ z < -1 ∧ z < x) ∧ (z = -1 ∨ A 0 (kr_ix z) = A 0 (kr_ix x))) True = 0) : vx_Met l yX0_setSpill (Cond.code yX0_setSpill cX0_setSpill 5 (some .int) :: kr_all) ({ frames := 7, cells := 1, slots := 6, locals := 111 }) (va_Pc [.ref h, .int x, .int y, .int z] (kr_RT D (kr_W0 cy h a N L A) cy)) kr_no (kr_XC (kr_E (kr_cd (kr_i N x) (kr_o y ∧ (¬ z < -1 ∧ z < x) ∧ (z = -1 ∨ A 0 (kr_ix z) = A 0 (kr_ix x))) True))) 1 6 (fun _ => False) := by
  refine kr_ofX (by decide) (Nat.le_of_ble_eq_true rfl) ?_
  intro p e s m below meth c ls hx hb hml hr hts hown hlocks ht hv hl
  obtain ⟨⟨hP, hK⟩, hT⟩ := hv
  have hown : s.vm.findClass RX0 = some m.cls := hown
  have hl : lv_has ls 5 [(0, .ref h), (1, .int x), (2, .int y), (3, .int z)] := hl
  refine lv_aload_n hx hb dX0_setSpill_0 rfl (lv_at hl 0 rfl) ?_
  refine lv_iload_n hx hb dX0_setSpill_1 rfl (lv_at hl 1 rfl) ?_
  by_cases hk : kr_i N x
  · obtain ⟨k, hk2, rfl⟩ := kr_inN hN hk
    refine kr_vV (n := 1) (As := [.int (nI k)]) (rest := []) ⟨hx, hb, hml, hown, hts⟩ (c_X0_checkKnot l D cy h a N L A k (by omega) (by omega)) kg_RX0_59 ⟨rfl, rfl⟩ (by decide +kernel) ⟨Nat.le_of_ble_eq_true rfl, Nat.le_of_ble_eq_true rfl⟩ (kr_pv0 hP hK) rfl hl.1 rfl (Nat.le_of_ble_eq_true rfl) dX0_setSpill_2 ⟨Nat.zero_le _, Nat.zero_le _⟩ ?_
    refine lv_iload_n hx hb dX0_setSpill_5 rfl (lv_at hl 2 rfl) ?_
    by_cases ho : kr_o y
    · refine kr_sV (n := 1) (As := [.int y]) (rest := []) ⟨hx, hb, hml, hown, hts⟩ (c_X0_checkLoad l y (by assumption)) kg_RX0_62 ⟨rfl, rfl⟩ (by decide +kernel) ⟨Nat.le_of_ble_eq_true rfl, Nat.le_of_ble_eq_true rfl⟩ ⟨kr_blT, fun U hU hW => ⟨rfl, trivial⟩⟩ rfl hl.1 rfl (Nat.le_of_ble_eq_true rfl) dX0_setSpill_6 ⟨Nat.zero_le _, Nat.zero_le _⟩ ?_
      refine lv_iload_n hx hb dX0_setSpill_9 rfl (lv_at hl 3 rfl) ?_
      refine lv_iconst (v := -1) hx hb dX0_setSpill_10 (by decide) ?_
      refine lv_icmp_lt (tgt := 19) hx hb dX0_setSpill_11 (by decide) (fun c11 => ?_) (fun c11 => ?_)
      · rw [kr_cd2 hk (fun w => w.2.1.1 c11), kr_E2]
        exact kr_thrA hx hb hl0 hown hts hT (List.mem_of_getElem? (i := 3) rfl) (hl.1.trans hml.symm) dX0_setSpill_19 dX0_setSpill_22 dX0_setSpill_23 dX0_setSpill_25 dX0_setSpill_28 ht ⟨by decide, by decide, by decide, by decide⟩ hlocks
      · refine lv_iload_n hx hb dX0_setSpill_14 rfl (lv_at hl 3 rfl) ?_
        refine lv_iload_n hx hb dX0_setSpill_15 rfl (lv_at hl 1 rfl) ?_
        refine lv_icmp_lt (tgt := 29) hx hb dX0_setSpill_16 (by decide) (fun c16 => ?_) (fun c16 => ?_)
        · refine lv_iload_n hx hb dX0_setSpill_29 rfl (lv_at hl 3 rfl) ?_
          refine lv_iconst (v := -1) hx hb dX0_setSpill_30 (by decide) ?_
          refine lv_icmp_eq (tgt := 59) hx hb dX0_setSpill_31 (by decide) (fun c31 => ?_) (fun c31 => ?_)
          · exact absurd (kr_cd0 hk ⟨ho, ⟨c11, c16⟩, Or.inl c31⟩ trivial) hc
          · obtain ⟨j, hj, rfl⟩ : ∃ j, j < k ∧ z = nI j := kr_inS (by omega) c11 c16 c31
            refine lv_aload_n hx hb dX0_setSpill_34 rfl (lv_at hl 0 rfl) ?_
            refine va_get (ci := 0) (v := .ref (a 0)) (C := RX0) (T := TX0) (N := 10) hx hb hts kr_wsX0 hown hK hP 0 rfl rfl 0 (by decide) (hts _ kq_42) (fun _ h9 => h9) rfl dX0_setSpill_35 ?_
            refine lv_iload_n hx hb dX0_setSpill_38 rfl (lv_at hl 3 rfl) ?_
            refine kr_ald hx hb hK hP 1 0 rfl rfl j (by omega) (by decide) dX0_setSpill_39 ?_
            refine lv_aload_n hx hb dX0_setSpill_40 rfl (lv_at hl 0 rfl) ?_
            refine va_get (ci := 0) (v := .ref (a 0)) (C := RX0) (T := TX0) (N := 10) hx hb hts kr_wsX0 hown hK hP 0 rfl rfl 0 (by decide) (hts _ kq_42) (fun _ h9 => h9) rfl dX0_setSpill_41 ?_
            refine lv_iload_n hx hb dX0_setSpill_44 rfl (lv_at hl 1 rfl) ?_
            refine kr_ald hx hb hK hP 1 0 rfl rfl k (by omega) (by decide) dX0_setSpill_45 ?_
            refine lv_icmp_eq (tgt := 59) hx hb dX0_setSpill_46 (by decide) (fun c46 => ?_) (fun c46 => ?_)
            · exact absurd (kr_cd0 hk ⟨ho, ⟨c11, c16⟩, Or.inr (by rw [kr_ix_nI (by omega), kr_ix_nI (by omega)]; exact c46)⟩ trivial) hc
            · rw [kr_cd2 hk (fun w => w.2.2.elim (kr_kn_ne (by omega)) (fun e => c46 (by rw [kr_ix_nI (by omega), kr_ix_nI (by omega)] at e; exact e))), kr_E2]
              exact kr_thrA hx hb hl0 hown hts hT (List.mem_of_getElem? (i := 4) rfl) (hl.1.trans hml.symm) dX0_setSpill_49 dX0_setSpill_52 dX0_setSpill_53 dX0_setSpill_55 dX0_setSpill_58 ht ⟨by decide, by decide, by decide, by decide⟩ hlocks
        · rw [kr_cd2 hk (fun w => c16 w.2.1.2), kr_E2]
          exact kr_thrA hx hb hl0 hown hts hT (List.mem_of_getElem? (i := 3) rfl) (hl.1.trans hml.symm) dX0_setSpill_19 dX0_setSpill_22 dX0_setSpill_23 dX0_setSpill_25 dX0_setSpill_28 ht ⟨by decide, by decide, by decide, by decide⟩ hlocks
    · rw [kr_cd2 hk (fun w => ho w.1), kr_E2]
      exact kr_xS (n := 1) (As := [.int y]) (rest := []) ⟨hx, hb, hml, hown, hts⟩ (x_X0_checkLoad l hl0 y ho) kg_RX0_62 ⟨rfl, rfl⟩ (by decide +kernel) ⟨Nat.le_of_ble_eq_true rfl, Nat.le_of_ble_eq_true rfl⟩ (kr_psx hT (fun _ _ => rfl)) rfl hl.1 rfl (Nat.le_of_ble_eq_true rfl) dX0_setSpill_6 ⟨Nat.le_of_ble_eq_true rfl, Nat.le_of_ble_eq_true rfl⟩ ht hlocks
  · rw [kr_cd1 hk, kr_E1]
    exact kr_xV (n := 1) (As := [.int x]) (rest := []) ⟨hx, hb, hml, hown, hts⟩ (x_X0_checkKnot l hl0 D cy h a N L A x hk) kg_RX0_59 ⟨rfl, rfl⟩ (by decide +kernel) ⟨Nat.le_of_ble_eq_true rfl, Nat.le_of_ble_eq_true rfl⟩ (kr_pvx hP hK hT (fun _ _ => rfl)) rfl hl.1 rfl (Nat.le_of_ble_eq_true rfl) dX0_setSpill_2 ⟨Nat.le_of_ble_eq_true rfl, Nat.le_of_ble_eq_true rfl⟩ ht hlocks
theorem kg_RX0_69 : GoodIn kr_all (wsV RX0 69 RX0 yX0_checkOfKind (Cond.code yX0_checkOfKind cX0_checkOfKind 3 none :: kr_all)) := kr_gV kq_167 kq_169 kq_5 kq_25 kq_170
theorem kg_RX0_73 : GoodIn kr_all (wsS RX0 73 yX0_checkStrength (Cond.code yX0_checkStrength cX0_checkStrength 1 none :: kr_all)) := kr_gS kq_487 kq_488 kq_25 kq_489
set_option maxHeartbeats 4000000 in
set_option maxRecDepth 100000 in
theorem x_X0_tie (l : Launch) (hl0 : l.stackTraces = false) (D : va_G) (cy : ClassId) (h : Nat) (a : Nat → Nat) (N L : Nat) (A : Nat → Nat → Int32) (x y : Int32) (hN : N ≤ 16) (hL : L ≤ 6) (hc : ¬ kr_cd (kr_i N x) (A 0 (kr_ix x) = 1 ∧ kr_o y) (L < 6) = 0) : vx_Met l yX0_tie (Cond.code yX0_tie cX0_tie 4 (some .int) :: kr_all) ({ frames := 7, cells := 1, slots := 6, locals := 112 }) (va_Pc [.ref h, .int x, .int y] (kr_RT D (kr_W0 cy h a N L A) cy)) kr_no (kr_XC (kr_E (kr_cd (kr_i N x) (A 0 (kr_ix x) = 1 ∧ kr_o y) (L < 6)))) 1 6 (fun _ => False) := by
  refine kr_ofX (by decide) (Nat.le_of_ble_eq_true rfl) ?_
  intro p e s m below meth c ls hx hb hml hr hts hown hlocks ht hv hl
  obtain ⟨⟨hP, hK⟩, hT⟩ := hv
  have hown : s.vm.findClass RX0 = some m.cls := hown
  have hl : lv_has ls 4 [(0, .ref h), (1, .int x), (2, .int y)] := hl
  refine lv_aload_n hx hb dX0_tie_0 rfl (lv_at hl 0 rfl) ?_
  refine lv_iload_n hx hb dX0_tie_1 rfl (lv_at hl 1 rfl) ?_
  by_cases hk : kr_i N x
  · obtain ⟨k, hk2, rfl⟩ := kr_inN hN hk
    rw [show kr_ix (nI k) = k from kr_ix_nI (by omega)] at hc ⊢
    refine kr_vV (n := 1) (As := [.int (nI k)]) (rest := []) ⟨hx, hb, hml, hown, hts⟩ (c_X0_checkKnot l D cy h a N L A k (by omega) (by omega)) kg_RX0_59 ⟨rfl, rfl⟩ (by decide +kernel) ⟨Nat.le_of_ble_eq_true rfl, Nat.le_of_ble_eq_true rfl⟩ (kr_pv0 hP hK) rfl hl.1 rfl (Nat.le_of_ble_eq_true rfl) dX0_tie_2 ⟨Nat.zero_le _, Nat.zero_le _⟩ ?_
    refine lv_aload_n hx hb dX0_tie_5 rfl (lv_at hl 0 rfl) ?_
    refine lv_iload_n hx hb dX0_tie_6 rfl (lv_at hl 1 rfl) ?_
    refine lv_iconst (v := 1) hx hb dX0_tie_7 (by decide) ?_
    by_cases he : A 0 k = 1
    · refine kr_vV (n := 2) (As := [.int (nI k), .int 1]) (rest := []) ⟨hx, hb, hml, hown, hts⟩ (c_X0_checkOfKind l D cy h a N L A k 1 (by omega) (by assumption)) kg_RX0_69 ⟨rfl, rfl⟩ (by decide +kernel) ⟨Nat.le_of_ble_eq_true rfl, Nat.le_of_ble_eq_true rfl⟩ (kr_pv0 hP hK) rfl hl.1 rfl (Nat.le_of_ble_eq_true rfl) dX0_tie_8 ⟨Nat.zero_le _, Nat.zero_le _⟩ ?_
      refine lv_iload_n hx hb dX0_tie_11 rfl (lv_at hl 2 rfl) ?_
      by_cases ho : kr_o y
      · refine kr_sV (n := 1) (As := [.int y]) (rest := []) ⟨hx, hb, hml, hown, hts⟩ (c_X0_checkStrength l y (by assumption)) kg_RX0_73 ⟨rfl, rfl⟩ (by decide +kernel) ⟨Nat.le_of_ble_eq_true rfl, Nat.le_of_ble_eq_true rfl⟩ ⟨kr_blT, fun U hU hW => ⟨rfl, trivial⟩⟩ rfl hl.1 rfl (Nat.le_of_ble_eq_true rfl) dX0_tie_12 ⟨Nat.zero_le _, Nat.zero_le _⟩ ?_
        refine lv_aload_n hx hb dX0_tie_15 rfl (lv_at hl 0 rfl) ?_
        refine va_get (ci := 0) (v := .int (nI L)) (C := RX0) (T := TX0) (N := 10) hx hb hts kr_wsX0 hown hK hP 0 rfl rfl 7 (by decide) (hts _ kq_49) (fun _ h9 => h9) rfl dX0_tie_16 ?_
        refine lv_bipush (v := 6) hx hb dX0_tie_19 (by decide) ?_
        refine lv_icmp_lt (tgt := 34) hx hb dX0_tie_21 (by decide) (fun c21 => ?_) (fun c21 => ?_)
        · exact absurd (kr_cd0 hk ⟨he, ho⟩ ((nI_ltI (b := 6) (by omega) (by decide)).mp c21)) hc
        · rw [kr_cd3 hk ⟨he, ho⟩ (fun w => c21 (nI_lt (b := 6) w (by decide))), kr_E3]
          exact kr_thrS hx hb hl0 hown hts hT (List.mem_of_getElem? (i := 5) rfl) (hl.1.trans hml.symm) dX0_tie_24 dX0_tie_27 dX0_tie_28 dX0_tie_30 dX0_tie_33 ht ⟨by decide, by decide, by decide, by decide⟩ hlocks
      · rw [kr_cd2 hk (fun w => ho w.2), kr_E2]
        exact kr_xS (n := 1) (As := [.int y]) (rest := []) ⟨hx, hb, hml, hown, hts⟩ (x_X0_checkStrength l hl0 y ho) kg_RX0_73 ⟨rfl, rfl⟩ (by decide +kernel) ⟨Nat.le_of_ble_eq_true rfl, Nat.le_of_ble_eq_true rfl⟩ (kr_psx hT (fun _ _ => rfl)) rfl hl.1 rfl (Nat.le_of_ble_eq_true rfl) dX0_tie_12 ⟨Nat.le_of_ble_eq_true rfl, Nat.le_of_ble_eq_true rfl⟩ ht hlocks
    · rw [kr_cd2 hk (fun w => he w.1), kr_E2]
      exact kr_xV (n := 2) (As := [.int (nI k), .int 1]) (rest := []) ⟨hx, hb, hml, hown, hts⟩ (x_X0_checkOfKind l hl0 D cy h a N L A k 1 (by omega) he) kg_RX0_69 ⟨rfl, rfl⟩ (by decide +kernel) ⟨Nat.le_of_ble_eq_true rfl, Nat.le_of_ble_eq_true rfl⟩ (kr_pvx hP hK hT (fun _ _ => rfl)) rfl hl.1 rfl (Nat.le_of_ble_eq_true rfl) dX0_tie_8 ⟨Nat.le_of_ble_eq_true rfl, Nat.le_of_ble_eq_true rfl⟩ ht hlocks
  · rw [kr_cd1 hk, kr_E1]
    exact kr_xV (n := 1) (As := [.int x]) (rest := []) ⟨hx, hb, hml, hown, hts⟩ (x_X0_checkKnot l hl0 D cy h a N L A x hk) kg_RX0_59 ⟨rfl, rfl⟩ (by decide +kernel) ⟨Nat.le_of_ble_eq_true rfl, Nat.le_of_ble_eq_true rfl⟩ (kr_pvx hP hK hT (fun _ _ => rfl)) rfl hl.1 rfl (Nat.le_of_ble_eq_true rfl) dX0_tie_2 ⟨Nat.le_of_ble_eq_true rfl, Nat.le_of_ble_eq_true rfl⟩ ht hlocks
theorem kg_RX0_85 : GoodIn kr_all (wsV RX0 85 RX0 yX0_checkNotGone (Cond.code yX0_checkNotGone cX0_checkNotGone 2 none :: kr_all)) := kr_gV kq_198 kq_200 kq_6 kq_25 kq_201
set_option maxHeartbeats 4000000 in
set_option maxRecDepth 100000 in
theorem x_X0_join (l : Launch) (hl0 : l.stackTraces = false) (D : va_G) (cy : ClassId) (h : Nat) (a : Nat → Nat) (N L : Nat) (A : Nat → Nat → Int32) (x y z : Int32) (hw : kr_wf N L A) (hc : ¬ kr_cd (kr_i L x ∧ kr_i N y) (A 0 (kr_ix y) = 0 ∧ kr_o z) (¬ A 5 (kr_ix x) = 0 ∧ A 5 (kr_ix x) < 5) = 0) : vx_Met l yX0_join (Cond.code yX0_join cX0_join 4 (some .int) :: kr_all) ({ frames := 7, cells := 1, slots := 6, locals := 112 }) (va_Pc [.ref h, .int x, .int y, .int z] (kr_RT D (kr_W0 cy h a N L A) cy)) kr_no (kr_XC (kr_E (kr_cd (kr_i L x ∧ kr_i N y) (A 0 (kr_ix y) = 0 ∧ kr_o z) (¬ A 5 (kr_ix x) = 0 ∧ A 5 (kr_ix x) < 5)))) 1 6 (fun _ => False) := by
  refine kr_ofX (by decide) (Nat.le_of_ble_eq_true rfl) ?_
  intro p e s m below meth c ls hx hb hml hr hts hown hlocks ht hv hl
  obtain ⟨⟨hP, hK⟩, hT⟩ := hv
  have hown : s.vm.findClass RX0 = some m.cls := hown
  have hl : lv_has ls 4 [(0, .ref h), (1, .int x), (2, .int y), (3, .int z)] := hl
  have hN := hw.1
  have hL := hw.2.1
  refine lv_aload_n hx hb dX0_join_0 rfl (lv_at hl 0 rfl) ?_
  refine lv_iload_n hx hb dX0_join_1 rfl (lv_at hl 1 rfl) ?_
  by_cases hk1 : kr_i L x
  · obtain ⟨q, hq, rfl⟩ := kr_inL hL hk1
    obtain ⟨hrc, er⟩ := hw.rc hq
    refine kr_vV (n := 1) (As := [.int (nI q)]) (rest := []) ⟨hx, hb, hml, hown, hts⟩ (c_X0_checkLine l D cy h a N L A q (by omega) (by omega)) kg_RX0_82 ⟨rfl, rfl⟩ (by decide +kernel) ⟨Nat.le_of_ble_eq_true rfl, Nat.le_of_ble_eq_true rfl⟩ (kr_pv0 hP hK) rfl hl.1 rfl (Nat.le_of_ble_eq_true rfl) dX0_join_2 ⟨Nat.zero_le _, Nat.zero_le _⟩ ?_
    refine lv_aload_n hx hb dX0_join_5 rfl (lv_at hl 0 rfl) ?_
    refine lv_iload_n hx hb dX0_join_6 rfl (lv_at hl 2 rfl) ?_
    by_cases hk : kr_i N y
    · obtain ⟨k, hk2, rfl⟩ := kr_inN hN hk
      rw [show kr_ix (nI k) = k from kr_ix_nI (by omega), show kr_ix (nI q) = q from kr_ix_nI (by omega)] at hc ⊢
      refine kr_vV (n := 1) (As := [.int (nI k)]) (rest := []) ⟨hx, hb, hml, hown, hts⟩ (c_X0_checkKnot l D cy h a N L A k (by omega) (by omega)) kg_RX0_59 ⟨rfl, rfl⟩ (by decide +kernel) ⟨Nat.le_of_ble_eq_true rfl, Nat.le_of_ble_eq_true rfl⟩ (kr_pv0 hP hK) rfl hl.1 rfl (Nat.le_of_ble_eq_true rfl) dX0_join_7 ⟨Nat.zero_le _, Nat.zero_le _⟩ ?_
      refine lv_aload_n hx hb dX0_join_10 rfl (lv_at hl 0 rfl) ?_
      refine lv_iload_n hx hb dX0_join_11 rfl (lv_at hl 2 rfl) ?_
      refine lv_iconst (v := 0) hx hb dX0_join_12 (by decide) ?_
      by_cases he : A 0 k = 0
      · refine kr_vV (n := 2) (As := [.int (nI k), .int 0]) (rest := []) ⟨hx, hb, hml, hown, hts⟩ (c_X0_checkOfKind l D cy h a N L A k 0 (by omega) (by assumption)) kg_RX0_69 ⟨rfl, rfl⟩ (by decide +kernel) ⟨Nat.le_of_ble_eq_true rfl, Nat.le_of_ble_eq_true rfl⟩ (kr_pv0 hP hK) rfl hl.1 rfl (Nat.le_of_ble_eq_true rfl) dX0_join_13 ⟨Nat.zero_le _, Nat.zero_le _⟩ ?_
        refine lv_iload_n hx hb dX0_join_16 rfl (lv_at hl 3 rfl) ?_
        by_cases ho : kr_o z
        · refine kr_sV (n := 1) (As := [.int z]) (rest := []) ⟨hx, hb, hml, hown, hts⟩ (c_X0_checkStrength l z (by assumption)) kg_RX0_73 ⟨rfl, rfl⟩ (by decide +kernel) ⟨Nat.le_of_ble_eq_true rfl, Nat.le_of_ble_eq_true rfl⟩ ⟨kr_blT, fun U hU hW => ⟨rfl, trivial⟩⟩ rfl hl.1 rfl (Nat.le_of_ble_eq_true rfl) dX0_join_17 ⟨Nat.zero_le _, Nat.zero_le _⟩ ?_
          refine lv_aload_n hx hb dX0_join_20 rfl (lv_at hl 0 rfl) ?_
          refine lv_iload_n hx hb dX0_join_21 rfl (lv_at hl 1 rfl) ?_
          by_cases hg : A 5 q = 0
          · rw [kr_cd3 ⟨hk1, hk⟩ ⟨he, ho⟩ (fun w => w.1 hg), kr_E3]
            exact kr_xV (n := 1) (As := [.int (nI q)]) (rest := []) ⟨hx, hb, hml, hown, hts⟩ (x_X0_checkNotGone l hl0 D cy h a N L A q (by omega) hg) kg_RX0_85 ⟨rfl, rfl⟩ (by decide +kernel) ⟨Nat.le_of_ble_eq_true rfl, Nat.le_of_ble_eq_true rfl⟩ (kr_pvx hP hK hT (fun _ _ => rfl)) rfl hl.1 rfl (Nat.le_of_ble_eq_true rfl) dX0_join_22 ⟨Nat.le_of_ble_eq_true rfl, Nat.le_of_ble_eq_true rfl⟩ ht hlocks
          · refine kr_vV (n := 1) (As := [.int (nI q)]) (rest := []) ⟨hx, hb, hml, hown, hts⟩ (c_X0_checkNotGone l D cy h a N L A q (by omega) (by assumption)) kg_RX0_85 ⟨rfl, rfl⟩ (by decide +kernel) ⟨Nat.le_of_ble_eq_true rfl, Nat.le_of_ble_eq_true rfl⟩ (kr_pv0 hP hK) rfl hl.1 rfl (Nat.le_of_ble_eq_true rfl) dX0_join_22 ⟨Nat.zero_le _, Nat.zero_le _⟩ ?_
            refine lv_aload_n hx hb dX0_join_25 rfl (lv_at hl 0 rfl) ?_
            refine va_get (ci := 0) (v := .ref (a 5)) (C := RX0) (T := TX0) (N := 10) hx hb hts kr_wsX0 hown hK hP 0 rfl rfl 6 (by decide) (hts _ kq_48) (fun _ h9 => h9) rfl dX0_join_26 ?_
            refine lv_iload_n hx hb dX0_join_29 rfl (lv_at hl 1 rfl) ?_
            refine kr_ald hx hb hK hP 6 0 rfl rfl q (by omega) (by decide) dX0_join_30 ?_
            refine lv_iconst (v := 5) hx hb dX0_join_31 (by decide) ?_
            refine lv_icmp_lt (tgt := 45) hx hb dX0_join_32 (by decide) (fun c32 => ?_) (fun c32 => ?_)
            · exact absurd (kr_cd0 ⟨hk1, hk⟩ ⟨he, ho⟩ ⟨hg, c32⟩) hc
            · rw [kr_cd3 ⟨hk1, hk⟩ ⟨he, ho⟩ (fun w => c32 w.2), kr_E3]
              exact kr_thrS hx hb hl0 hown hts hT (List.mem_of_getElem? (i := 6) rfl) (hl.1.trans hml.symm) dX0_join_35 dX0_join_38 dX0_join_39 dX0_join_41 dX0_join_44 ht ⟨by decide, by decide, by decide, by decide⟩ hlocks
        · rw [kr_cd2 ⟨hk1, hk⟩ (fun w => ho w.2), kr_E2]
          exact kr_xS (n := 1) (As := [.int z]) (rest := []) ⟨hx, hb, hml, hown, hts⟩ (x_X0_checkStrength l hl0 z ho) kg_RX0_73 ⟨rfl, rfl⟩ (by decide +kernel) ⟨Nat.le_of_ble_eq_true rfl, Nat.le_of_ble_eq_true rfl⟩ (kr_psx hT (fun _ _ => rfl)) rfl hl.1 rfl (Nat.le_of_ble_eq_true rfl) dX0_join_17 ⟨Nat.le_of_ble_eq_true rfl, Nat.le_of_ble_eq_true rfl⟩ ht hlocks
      · rw [kr_cd2 ⟨hk1, hk⟩ (fun w => he w.1), kr_E2]
        exact kr_xV (n := 2) (As := [.int (nI k), .int 0]) (rest := []) ⟨hx, hb, hml, hown, hts⟩ (x_X0_checkOfKind l hl0 D cy h a N L A k 0 (by omega) he) kg_RX0_69 ⟨rfl, rfl⟩ (by decide +kernel) ⟨Nat.le_of_ble_eq_true rfl, Nat.le_of_ble_eq_true rfl⟩ (kr_pvx hP hK hT (fun _ _ => rfl)) rfl hl.1 rfl (Nat.le_of_ble_eq_true rfl) dX0_join_13 ⟨Nat.le_of_ble_eq_true rfl, Nat.le_of_ble_eq_true rfl⟩ ht hlocks
    · rw [kr_cd1 (fun w => hk w.2), kr_E1]
      exact kr_xV (n := 1) (As := [.int y]) (rest := []) ⟨hx, hb, hml, hown, hts⟩ (x_X0_checkKnot l hl0 D cy h a N L A y hk) kg_RX0_59 ⟨rfl, rfl⟩ (by decide +kernel) ⟨Nat.le_of_ble_eq_true rfl, Nat.le_of_ble_eq_true rfl⟩ (kr_pvx hP hK hT (fun _ _ => rfl)) rfl hl.1 rfl (Nat.le_of_ble_eq_true rfl) dX0_join_7 ⟨Nat.le_of_ble_eq_true rfl, Nat.le_of_ble_eq_true rfl⟩ ht hlocks
  · rw [kr_cd1 (fun w => hk1 w.1), kr_E1]
    exact kr_xV (n := 1) (As := [.int x]) (rest := []) ⟨hx, hb, hml, hown, hts⟩ (x_X0_checkLine l hl0 D cy h a N L A x hk1) kg_RX0_82 ⟨rfl, rfl⟩ (by decide +kernel) ⟨Nat.le_of_ble_eq_true rfl, Nat.le_of_ble_eq_true rfl⟩ (kr_pvx hP hK hT (fun _ _ => rfl)) rfl hl.1 rfl (Nat.le_of_ble_eq_true rfl) dX0_join_2 ⟨Nat.le_of_ble_eq_true rfl, Nat.le_of_ble_eq_true rfl⟩ ht hlocks
set_option maxHeartbeats 4000000 in
set_option maxRecDepth 100000 in
theorem x_X0_retie (l : Launch) (hl0 : l.stackTraces = false) (D : va_G) (cy : ClassId) (h : Nat) (a : Nat → Nat) (N L : Nat) (A : Nat → Nat → Int32) (x y z : Int32) (hw : kr_wf N L A) (hc : ¬ kr_cd (kr_q L A x y ∧ kr_i N z) (A 0 (kr_ix z) = if y = 0 then 1 else 0) True = 0) : vx_Met l yX0_retie (Cond.code yX0_retie cX0_retie 6 (some .int) :: kr_all) ({ frames := 8, cells := 1, slots := 6, locals := 133 }) (va_Pc [.ref h, .int x, .int y, .int z] (kr_RT D (kr_W0 cy h a N L A) cy)) kr_no (kr_XC (kr_E (kr_cd (kr_q L A x y ∧ kr_i N z) (A 0 (kr_ix z) = if y = 0 then 1 else 0) True))) 1 6 (fun _ => False) := by
  refine kr_ofX (by decide) (Nat.le_of_ble_eq_true rfl) ?_
  intro p e s m below meth c ls hx hb hml hr hts hown hlocks ht hv hl
  obtain ⟨⟨hP, hK⟩, hT⟩ := hv
  have hown : s.vm.findClass RX0 = some m.cls := hown
  have hl : lv_has ls 6 [(0, .ref h), (1, .int x), (2, .int y), (3, .int z)] := hl
  have hN := hw.1
  have hL := hw.2.1
  refine lv_aload_n hx hb dX0_retie_0 rfl (lv_at hl 0 rfl) ?_
  refine lv_iload_n hx hb dX0_retie_1 rfl (lv_at hl 1 rfl) ?_
  refine lv_iload_n hx hb dX0_retie_2 rfl (lv_at hl 2 rfl) ?_
  by_cases hk1 : kr_q L A x y
  · obtain ⟨q, pl, hq, hp, rfl, rfl⟩ := kr_inP hw hk1
    obtain ⟨hrc, er⟩ := hw.rc hq
    refine kr_vV (n := 2) (As := [.int (nI q), .int (nI pl)]) (rest := []) ⟨hx, hb, hml, hown, hts⟩ (c_X0_checkPlace l D cy h a N L A q pl hw (by omega) (by omega)) kg_RX0_90 ⟨rfl, rfl⟩ (by decide +kernel) ⟨Nat.le_of_ble_eq_true rfl, Nat.le_of_ble_eq_true rfl⟩ (kr_pv0 hP hK) rfl hl.1 rfl (Nat.le_of_ble_eq_true rfl) dX0_retie_3 ⟨Nat.zero_le _, Nat.zero_le _⟩ ?_
    refine lv_aload_n hx hb dX0_retie_6 rfl (lv_at hl 0 rfl) ?_
    refine lv_iload_n hx hb dX0_retie_7 rfl (lv_at hl 3 rfl) ?_
    by_cases hk : kr_i N z
    · obtain ⟨k, hk2, rfl⟩ := kr_inN hN hk
      rw [show kr_ix (nI k) = k from kr_ix_nI (by omega)] at hc ⊢
      refine kr_vV (n := 1) (As := [.int (nI k)]) (rest := []) ⟨hx, hb, hml, hown, hts⟩ (c_X0_checkKnot l D cy h a N L A k (by omega) (by omega)) kg_RX0_59 ⟨rfl, rfl⟩ (by decide +kernel) ⟨Nat.le_of_ble_eq_true rfl, Nat.le_of_ble_eq_true rfl⟩ (kr_pv0 hP hK) rfl hl.1 rfl (Nat.le_of_ble_eq_true rfl) dX0_retie_8 ⟨Nat.zero_le _, Nat.zero_le _⟩ ?_
      refine lv_aload_n hx hb dX0_retie_11 rfl (lv_at hl 0 rfl) ?_
      refine lv_iload_n hx hb dX0_retie_12 rfl (lv_at hl 3 rfl) ?_
      refine lv_iload_n hx hb dX0_retie_13 rfl (lv_at hl 2 rfl) ?_
      refine kr_sI (n := 1) (As := [.int (nI pl)]) (rest := [.int (nI k), .ref h]) ⟨hx, hb, hml, hown, hts⟩ (c_X0_kindDueAt l (nI pl)) kg_RX0_93 ⟨rfl, rfl⟩ (by decide +kernel) ⟨Nat.le_of_ble_eq_true rfl, Nat.le_of_ble_eq_true rfl⟩ ⟨kr_blT, fun U hU hW => ⟨rfl, trivial⟩⟩ rfl hl.1 rfl (Nat.le_of_ble_eq_true rfl) dX0_retie_14 ⟨Nat.zero_le _, Nat.zero_le _⟩ (fun r9 e9 => ?_)
      subst e9
      by_cases he : A 0 k = if nI pl = 0 then (1 : Int32) else 0
      · exact absurd (kr_cd0 ⟨hk1, hk⟩ he trivial) hc
      · rw [kr_cd2 ⟨hk1, hk⟩ he, kr_E2]
        exact kr_xV (n := 2) (As := [.int (nI k), .int (if (nI pl) = 0 then (1 : Int32) else 0)]) (rest := []) ⟨hx, hb, hml, hown, hts⟩ (x_X0_checkOfKind l hl0 D cy h a N L A k (if nI pl = 0 then (1 : Int32) else 0) (by omega) he) kg_RX0_69 ⟨rfl, rfl⟩ (by decide +kernel) ⟨Nat.le_of_ble_eq_true rfl, Nat.le_of_ble_eq_true rfl⟩ (kr_pvx hP hK hT (fun _ _ => rfl)) rfl hl.1 rfl (Nat.le_of_ble_eq_true rfl) dX0_retie_17 ⟨Nat.le_of_ble_eq_true rfl, Nat.le_of_ble_eq_true rfl⟩ ht hlocks
    · rw [kr_cd1 (fun w => hk w.2), kr_E1]
      exact kr_xV (n := 1) (As := [.int z]) (rest := []) ⟨hx, hb, hml, hown, hts⟩ (x_X0_checkKnot l hl0 D cy h a N L A z hk) kg_RX0_59 ⟨rfl, rfl⟩ (by decide +kernel) ⟨Nat.le_of_ble_eq_true rfl, Nat.le_of_ble_eq_true rfl⟩ (kr_pvx hP hK hT (fun _ _ => rfl)) rfl hl.1 rfl (Nat.le_of_ble_eq_true rfl) dX0_retie_8 ⟨Nat.le_of_ble_eq_true rfl, Nat.le_of_ble_eq_true rfl⟩ ht hlocks
  · rw [kr_cd1 (fun w => hk1 w.1), kr_E1]
    exact kr_xV (n := 2) (As := [.int x, .int y]) (rest := []) ⟨hx, hb, hml, hown, hts⟩ (x_X0_checkPlace l hl0 D cy h a N L A x y hw hk1) kg_RX0_90 ⟨rfl, rfl⟩ (by decide +kernel) ⟨Nat.le_of_ble_eq_true rfl, Nat.le_of_ble_eq_true rfl⟩ (kr_pvx hP hK hT (fun _ _ => rfl)) rfl hl.1 rfl (Nat.le_of_ble_eq_true rfl) dX0_retie_3 ⟨Nat.le_of_ble_eq_true rfl, Nat.le_of_ble_eq_true rfl⟩ ht hlocks
set_option maxHeartbeats 4000000 in
set_option maxRecDepth 100000 in
theorem x_X0_pull (l : Launch) (hl0 : l.stackTraces = false) (D : va_G) (cy : ClassId) (h : Nat) (a : Nat → Nat) (N L : Nat) (A : Nat → Nat → Int32) (x y : Int32) (hL : L ≤ 6) (hc : ¬ kr_cd (kr_i L x) (kr_o y) (¬ A 5 (kr_ix x) = 0) = 0) : vx_Met l yX0_pull (Cond.code yX0_pull cX0_pull 6 (some .int) :: kr_all) ({ frames := 7, cells := 1, slots := 6, locals := 111 }) (va_Pc [.ref h, .int x, .int y] (kr_RT D (kr_W0 cy h a N L A) cy)) kr_no (kr_XC (kr_E (kr_cd (kr_i L x) (kr_o y) (¬ A 5 (kr_ix x) = 0)))) 1 6 (fun _ => False) := by
  refine kr_ofX (by decide) (Nat.le_of_ble_eq_true rfl) ?_
  intro p e s m below meth c ls hx hb hml hr hts hown hlocks ht hv hl
  obtain ⟨⟨hP, hK⟩, hT⟩ := hv
  have hown : s.vm.findClass RX0 = some m.cls := hown
  have hl : lv_has ls 6 [(0, .ref h), (1, .int x), (2, .int y)] := hl
  refine lv_aload_n hx hb dX0_pull_0 rfl (lv_at hl 0 rfl) ?_
  refine lv_iload_n hx hb dX0_pull_1 rfl (lv_at hl 1 rfl) ?_
  by_cases hk : kr_i L x
  · obtain ⟨q, hq, rfl⟩ := kr_inL hL hk
    rw [show kr_ix (nI q) = q from kr_ix_nI (by omega)] at hc ⊢
    refine kr_vV (n := 1) (As := [.int (nI q)]) (rest := []) ⟨hx, hb, hml, hown, hts⟩ (c_X0_checkLine l D cy h a N L A q (by omega) (by omega)) kg_RX0_82 ⟨rfl, rfl⟩ (by decide +kernel) ⟨Nat.le_of_ble_eq_true rfl, Nat.le_of_ble_eq_true rfl⟩ (kr_pv0 hP hK) rfl hl.1 rfl (Nat.le_of_ble_eq_true rfl) dX0_pull_2 ⟨Nat.zero_le _, Nat.zero_le _⟩ ?_
    refine lv_iload_n hx hb dX0_pull_5 rfl (lv_at hl 2 rfl) ?_
    by_cases ho : kr_o y
    · refine kr_sV (n := 1) (As := [.int y]) (rest := []) ⟨hx, hb, hml, hown, hts⟩ (c_X0_checkLoad l y (by assumption)) kg_RX0_62 ⟨rfl, rfl⟩ (by decide +kernel) ⟨Nat.le_of_ble_eq_true rfl, Nat.le_of_ble_eq_true rfl⟩ ⟨kr_blT, fun U hU hW => ⟨rfl, trivial⟩⟩ rfl hl.1 rfl (Nat.le_of_ble_eq_true rfl) dX0_pull_6 ⟨Nat.zero_le _, Nat.zero_le _⟩ ?_
      refine lv_aload_n hx hb dX0_pull_9 rfl (lv_at hl 0 rfl) ?_
      refine lv_iload_n hx hb dX0_pull_10 rfl (lv_at hl 1 rfl) ?_
      by_cases hg : A 5 q = 0
      · rw [kr_cd3 hk ho (fun w => w hg), kr_E3]
        exact kr_xV (n := 1) (As := [.int (nI q)]) (rest := []) ⟨hx, hb, hml, hown, hts⟩ (x_X0_checkNotGone l hl0 D cy h a N L A q (by omega) hg) kg_RX0_85 ⟨rfl, rfl⟩ (by decide +kernel) ⟨Nat.le_of_ble_eq_true rfl, Nat.le_of_ble_eq_true rfl⟩ (kr_pvx hP hK hT (fun _ _ => rfl)) rfl hl.1 rfl (Nat.le_of_ble_eq_true rfl) dX0_pull_11 ⟨Nat.le_of_ble_eq_true rfl, Nat.le_of_ble_eq_true rfl⟩ ht hlocks
      · exact absurd (kr_cd0 hk ho hg) hc
    · rw [kr_cd2 hk ho, kr_E2]
      exact kr_xS (n := 1) (As := [.int y]) (rest := []) ⟨hx, hb, hml, hown, hts⟩ (x_X0_checkLoad l hl0 y ho) kg_RX0_62 ⟨rfl, rfl⟩ (by decide +kernel) ⟨Nat.le_of_ble_eq_true rfl, Nat.le_of_ble_eq_true rfl⟩ (kr_psx hT (fun _ _ => rfl)) rfl hl.1 rfl (Nat.le_of_ble_eq_true rfl) dX0_pull_6 ⟨Nat.le_of_ble_eq_true rfl, Nat.le_of_ble_eq_true rfl⟩ ht hlocks
  · rw [kr_cd1 hk, kr_E1]
    exact kr_xV (n := 1) (As := [.int x]) (rest := []) ⟨hx, hb, hml, hown, hts⟩ (x_X0_checkLine l hl0 D cy h a N L A x hk) kg_RX0_82 ⟨rfl, rfl⟩ (by decide +kernel) ⟨Nat.le_of_ble_eq_true rfl, Nat.le_of_ble_eq_true rfl⟩ (kr_pvx hP hK hT (fun _ _ => rfl)) rfl hl.1 rfl (Nat.le_of_ble_eq_true rfl) dX0_pull_2 ⟨Nat.le_of_ble_eq_true rfl, Nat.le_of_ble_eq_true rfl⟩ ht hlocks
