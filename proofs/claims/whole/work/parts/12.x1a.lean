set_option maxHeartbeats 4000000 in
set_option maxRecDepth 100000 in
theorem c_X1_isIn (l : Launch) (v lo hi : Int32) : Met l yX1_isIn (Cond.code yX1_isIn cX1_isIn 3 (some .boolean) :: kr_all) ({ frames := 0, cells := 0, slots := 0, locals := 0 }) (va_Pc [.int v, .int lo, .int hi] (fun _ => True)) (vp_Si (fun r => r = if ¬ v < lo ∧ ¬ hi < v then 1 else 0)) 0 0 (fun _ => False) := by
  refine kr_of (by decide) (Nat.le_of_ble_eq_true rfl) ?_
  intro p e s m below meth c ls hx hb hml hr hts hown hlocks hin hv hl
  have hown : s.vm.findClass RX1 = some m.cls := hown
  have hl : lv_has ls 3 [(0, .int v), (1, .int lo), (2, .int hi)] := hl
  refine lv_iload_n hx hb dX1_isIn_0 rfl (lv_at hl 0 rfl) ?_
  refine lv_iload_n hx hb dX1_isIn_1 rfl (lv_at hl 1 rfl) ?_
  refine lv_icmp_lt (tgt := 14) hx hb dX1_isIn_2 (by decide) (fun c2 => ?_) (fun c2 => ?_)
  · refine lv_iconst (v := 0) hx hb dX1_isIn_14 (by decide) ?_
    exact kr_eZ hx hb hr hlocks rfl (Or.inl rfl) (if_neg (fun z => z.1 c2)).symm dX1_isIn_15
  · refine lv_iload_n hx hb dX1_isIn_5 rfl (lv_at hl 0 rfl) ?_
    refine lv_iload_n hx hb dX1_isIn_6 rfl (lv_at hl 2 rfl) ?_
    refine lv_icmp_gt (tgt := 14) hx hb dX1_isIn_7 (by decide) (fun c7 => ?_) (fun c7 => ?_)
    · refine lv_iconst (v := 0) hx hb dX1_isIn_14 (by decide) ?_
      exact kr_eZ hx hb hr hlocks rfl (Or.inl rfl) (if_neg (fun z => z.2 c7)).symm dX1_isIn_15
    · refine lv_iconst (v := 1) hx hb dX1_isIn_10 (by decide) ?_
      refine lv_goto (tgt := 15) hx hb dX1_isIn_11 (by decide) ?_
      exact kr_eZ hx hb hr hlocks rfl (Or.inr rfl) (if_pos ⟨c2, c7⟩).symm dX1_isIn_15
theorem kg_RX1_41 : GoodIn kr_all (wsS RX1 41 yX1_isIn (Cond.code yX1_isIn cX1_isIn 3 (some .boolean) :: kr_all)) := kr_gS kq_584 kq_585 kq_49 kq_586
set_option maxHeartbeats 4000000 in
set_option maxRecDepth 100000 in
theorem c_X1_isKnot (l : Launch) (D : va_G) (cy : ClassId) (h : Nat) (a : Nat → Nat) (th : Int32) (N L : Nat) (A : Nat → Nat → Int32) (x : Int32) (hz : N ≤ 16) : Met l yX1_isKnot (Cond.code yX1_isKnot cX1_isKnot 2 (some .boolean) :: kr_all) ({ frames := 1, cells := 0, slots := 0, locals := 22 }) (va_Pc [.ref h, .int x] (kr_R D (kr_W1 cy h a th N L A) cy)) (vp_Si (fun r => r = if ¬ x < 0 ∧ ¬ nI N ≤ x then 1 else 0)) 0 0 (fun _ => False) := by
  refine kr_of (by decide) (Nat.le_of_ble_eq_true rfl) ?_
  intro p e s m below meth c ls hx hb hml hr hts hown hlocks hin hv hl
  obtain ⟨hP, hK⟩ := hv
  have hown : s.vm.findClass RX1 = some m.cls := hown
  have hl : lv_has ls 2 [(0, .ref h), (1, .int x)] := hl
  refine lv_iload_n hx hb dX1_isKnot_0 rfl (lv_at hl 1 rfl) ?_
  refine lv_iconst (v := 0) hx hb dX1_isKnot_1 (by decide) ?_
  refine lv_aload_n hx hb dX1_isKnot_2 rfl (lv_at hl 0 rfl) ?_
  refine va_get (ci := 1) (v := .int (nI N)) (C := RX1) (T := TX1) (N := 11) hx hb hts kr_wsX1 hown hK hP 0 rfl rfl 1 (by decide) (hts _ kq_543) (fun _ h9 => h9) rfl dX1_isKnot_3 ?_
  refine lv_iconst (v := 1) hx hb dX1_isKnot_6 (by decide) ?_
  refine lv_isub hx hb dX1_isKnot_7 ?_
  refine kr_sI (n := 3) (As := [.int x, .int 0, .int ((nI N) - 1)]) (rest := []) ⟨hx, hb, hml, hown, hts⟩ (c_X1_isIn l x 0 ((nI N) - 1)) kg_RX1_41 ⟨rfl, rfl⟩ (by decide +kernel) ⟨Nat.le_of_ble_eq_true rfl, Nat.le_of_ble_eq_true rfl⟩ ⟨kr_blT, fun U hU hW => ⟨rfl, trivial⟩⟩ rfl hl.1 rfl (Nat.le_of_ble_eq_true rfl) dX1_isKnot_8 ⟨Nat.zero_le _, Nat.zero_le _⟩ (fun r9 e9 => ?_)
  subst e9
  exact kr_eZ hx hb hr hlocks rfl kr_b01 (by simp only [kr_pred (show N < 2 ^ 30 by omega)]) dX1_isKnot_11
set_option maxHeartbeats 4000000 in
set_option maxRecDepth 100000 in
theorem c_X1_isLine (l : Launch) (D : va_G) (cy : ClassId) (h : Nat) (a : Nat → Nat) (th : Int32) (N L : Nat) (A : Nat → Nat → Int32) (x : Int32) (hz : L ≤ 16) : Met l yX1_isLine (Cond.code yX1_isLine cX1_isLine 2 (some .boolean) :: kr_all) ({ frames := 1, cells := 0, slots := 0, locals := 22 }) (va_Pc [.ref h, .int x] (kr_R D (kr_W1 cy h a th N L A) cy)) (vp_Si (fun r => r = if ¬ x < 0 ∧ ¬ nI L ≤ x then 1 else 0)) 0 0 (fun _ => False) := by
  refine kr_of (by decide) (Nat.le_of_ble_eq_true rfl) ?_
  intro p e s m below meth c ls hx hb hml hr hts hown hlocks hin hv hl
  obtain ⟨hP, hK⟩ := hv
  have hown : s.vm.findClass RX1 = some m.cls := hown
  have hl : lv_has ls 2 [(0, .ref h), (1, .int x)] := hl
  refine lv_iload_n hx hb dX1_isLine_0 rfl (lv_at hl 1 rfl) ?_
  refine lv_iconst (v := 0) hx hb dX1_isLine_1 (by decide) ?_
  refine lv_aload_n hx hb dX1_isLine_2 rfl (lv_at hl 0 rfl) ?_
  refine va_get (ci := 1) (v := .int (nI L)) (C := RX1) (T := TX1) (N := 11) hx hb hts kr_wsX1 hown hK hP 0 rfl rfl 7 (by decide) (hts _ kq_549) (fun _ h9 => h9) rfl dX1_isLine_3 ?_
  refine lv_iconst (v := 1) hx hb dX1_isLine_6 (by decide) ?_
  refine lv_isub hx hb dX1_isLine_7 ?_
  refine kr_sI (n := 3) (As := [.int x, .int 0, .int ((nI L) - 1)]) (rest := []) ⟨hx, hb, hml, hown, hts⟩ (c_X1_isIn l x 0 ((nI L) - 1)) kg_RX1_41 ⟨rfl, rfl⟩ (by decide +kernel) ⟨Nat.le_of_ble_eq_true rfl, Nat.le_of_ble_eq_true rfl⟩ ⟨kr_blT, fun U hU hW => ⟨rfl, trivial⟩⟩ rfl hl.1 rfl (Nat.le_of_ble_eq_true rfl) dX1_isLine_8 ⟨Nat.zero_le _, Nat.zero_le _⟩ (fun r9 e9 => ?_)
  subst e9
  exact kr_eZ hx hb hr hlocks rfl kr_b01 (by simp only [kr_pred (show L < 2 ^ 30 by omega)]) dX1_isLine_11
theorem kg_RX1_48 : GoodIn kr_all (wsV RX1 48 RX1 yX1_isLine (Cond.code yX1_isLine cX1_isLine 2 (some .boolean) :: kr_all)) := kr_gV kq_610 kq_612 kq_25 kq_49 kq_613
set_option maxHeartbeats 4000000 in
set_option maxRecDepth 100000 in
theorem c_X1_isPlace (l : Launch) (D : va_G) (cy : ClassId) (h : Nat) (a : Nat → Nat) (th : Int32) (N L : Nat) (A : Nat → Nat → Int32) (x y : Int32) (hw : kr_wf N L A) : Met l yX1_isPlace (Cond.code yX1_isPlace cX1_isPlace 3 (some .boolean) :: kr_all) ({ frames := 2, cells := 0, slots := 0, locals := 43 }) (va_Pc [.ref h, .int x, .int y] (kr_R D (kr_W1 cy h a th N L A) cy)) (vp_Si (fun r => r = if (¬ x < 0 ∧ ¬ nI L ≤ x) ∧ (¬ y < 0 ∧ ¬ A 5 (kr_ix x) ≤ y) then 1 else 0)) 0 0 (fun _ => False) := by
  refine kr_of (by decide) (Nat.le_of_ble_eq_true rfl) ?_
  intro p e s m below meth c ls hx hb hml hr hts hown hlocks hin hv hl
  obtain ⟨hP, hK⟩ := hv
  have hown : s.vm.findClass RX1 = some m.cls := hown
  have hl : lv_has ls 3 [(0, .ref h), (1, .int x), (2, .int y)] := hl
  have hL := hw.2.1
  refine lv_aload_n hx hb dX1_isPlace_0 rfl (lv_at hl 0 rfl) ?_
  refine lv_iload_n hx hb dX1_isPlace_1 rfl (lv_at hl 1 rfl) ?_
  refine kr_vI (n := 1) (As := [.int x]) (rest := []) ⟨hx, hb, hml, hown, hts⟩ (c_X1_isLine l D cy h a th N L A x (by omega)) kg_RX1_48 ⟨rfl, rfl⟩ (by decide +kernel) ⟨Nat.le_of_ble_eq_true rfl, Nat.le_of_ble_eq_true rfl⟩ (kr_pv1 hP hK) rfl hl.1 rfl (Nat.le_of_ble_eq_true rfl) dX1_isPlace_2 ⟨Nat.zero_le _, Nat.zero_le _⟩ (fun r9 e9 => ?_)
  subst e9
  refine lv_if_eq (tgt := 28) hx hb dX1_isPlace_5 (by decide) (fun c5 => ?_) (fun c5 => ?_)
  · refine lv_iconst (v := 0) hx hb dX1_isPlace_28 (by decide) ?_
    exact kr_eZ hx hb hr hlocks rfl (Or.inl rfl) (if_neg (fun z => kr_if0 c5 z.1)).symm dX1_isPlace_29
  · have hx1 := kr_if1 c5
    obtain ⟨q, hq, rfl⟩ : ∃ q, q < L ∧ x = nI q := kr_inL hL hx1
    obtain ⟨hrc, er⟩ := hw.rc hq
    refine lv_iload_n hx hb dX1_isPlace_8 rfl (lv_at hl 2 rfl) ?_
    refine lv_iconst (v := 0) hx hb dX1_isPlace_9 (by decide) ?_
    refine lv_aload_n hx hb dX1_isPlace_10 rfl (lv_at hl 0 rfl) ?_
    refine va_get (ci := 1) (v := .ref (a 5)) (C := RX1) (T := TX1) (N := 11) hx hb hts kr_wsX1 hown hK hP 0 rfl rfl 8 (by decide) (hts _ kq_550) (fun _ h9 => h9) rfl dX1_isPlace_11 ?_
    refine lv_iload_n hx hb dX1_isPlace_14 rfl (lv_at hl 1 rfl) ?_
    refine kr_ald hx hb hK hP 6 0 rfl rfl q (by omega) (by decide) dX1_isPlace_15 ?_
    rw [er]
    refine lv_iconst (v := 1) hx hb dX1_isPlace_16 (by decide) ?_
    refine lv_isub hx hb dX1_isPlace_17 ?_
    refine kr_sI (n := 3) (As := [.int y, .int 0, .int ((nI (kr_rc A q)) - 1)]) (rest := []) ⟨hx, hb, hml, hown, hts⟩ (c_X1_isIn l y 0 ((nI (kr_rc A q)) - 1)) kg_RX1_41 ⟨rfl, rfl⟩ (by decide +kernel) ⟨Nat.le_of_ble_eq_true rfl, Nat.le_of_ble_eq_true rfl⟩ ⟨kr_blT, fun U hU hW => ⟨rfl, trivial⟩⟩ rfl hl.1 rfl (Nat.le_of_ble_eq_true rfl) dX1_isPlace_18 ⟨Nat.zero_le _, Nat.zero_le _⟩ (fun r9 e9 => ?_)
    subst e9
    refine lv_if_eq (tgt := 28) hx hb dX1_isPlace_21 (by decide) (fun c21 => ?_) (fun c21 => ?_)
    · refine lv_iconst (v := 0) hx hb dX1_isPlace_28 (by decide) ?_
      exact kr_eZ hx hb hr hlocks rfl (Or.inl rfl) (if_neg (fun z => kr_if0 c21 ⟨z.2.1, fun w => z.2.2 (by rw [kr_ix_nI (by omega), er]; exact (kr_pred (by omega)).mp w)⟩)).symm dX1_isPlace_29
    · refine lv_iconst (v := 1) hx hb dX1_isPlace_24 (by decide) ?_
      refine lv_goto (tgt := 29) hx hb dX1_isPlace_25 (by decide) ?_
      exact kr_eZ hx hb hr hlocks rfl (Or.inr rfl) (if_pos ⟨hx1, (kr_if1 c21).1, fun w => (kr_if1 c21).2 (by rw [kr_ix_nI (by omega), er] at w; exact (kr_pred (by omega)).mpr w)⟩).symm dX1_isPlace_29
set_option maxHeartbeats 4000000 in
set_option maxRecDepth 100000 in
theorem c_X1_isLoad (l : Launch) (x : Int32) : Met l yX1_isLoad (Cond.code yX1_isLoad cX1_isLoad 1 (some .boolean) :: kr_all) ({ frames := 1, cells := 0, slots := 0, locals := 22 }) (va_Pc [.int x] (fun _ => True)) (vp_Si (fun r => r = if ¬ x < 1 ∧ ¬ 999 < x then 1 else 0)) 0 0 (fun _ => False) := by
  refine kr_of (by decide) (Nat.le_of_ble_eq_true rfl) ?_
  intro p e s m below meth c ls hx hb hml hr hts hown hlocks hin hv hl
  have hown : s.vm.findClass RX1 = some m.cls := hown
  have hl : lv_has ls 1 [(0, .int x)] := hl
  refine lv_iload_n hx hb dX1_isLoad_0 rfl (lv_at hl 0 rfl) ?_
  refine lv_iconst (v := 1) hx hb dX1_isLoad_1 (by decide) ?_
  refine lv_sipush (v := 999) hx hb dX1_isLoad_2 (by decide) ?_
  refine kr_sI (n := 3) (As := [.int x, .int 1, .int 999]) (rest := []) ⟨hx, hb, hml, hown, hts⟩ (c_X1_isIn l x 1 999) kg_RX1_41 ⟨rfl, rfl⟩ (by decide +kernel) ⟨Nat.le_of_ble_eq_true rfl, Nat.le_of_ble_eq_true rfl⟩ ⟨kr_blT, fun U hU hW => ⟨rfl, trivial⟩⟩ rfl hl.1 rfl (Nat.le_of_ble_eq_true rfl) dX1_isLoad_5 ⟨Nat.zero_le _, Nat.zero_le _⟩ (fun r9 e9 => ?_)
  subst e9
  exact kr_eZ hx hb hr hlocks rfl kr_b01 rfl dX1_isLoad_8
set_option maxHeartbeats 4000000 in
set_option maxRecDepth 100000 in
theorem c_X1_kindAt (l : Launch) (x : Int32) : Met l yX1_kindAt (Cond.code yX1_kindAt cX1_kindAt 1 (some .int) :: kr_all) ({ frames := 0, cells := 0, slots := 0, locals := 0 }) (va_Pc [.int x] (fun _ => True)) (vp_Si (fun r => r = if x = 0 then 1 else 0)) 0 0 (fun _ => False) := by
  refine kr_of (by decide) (Nat.le_of_ble_eq_true rfl) ?_
  intro p e s m below meth c ls hx hb hml hr hts hown hlocks hin hv hl
  have hown : s.vm.findClass RX1 = some m.cls := hown
  have hl : lv_has ls 1 [(0, .int x)] := hl
  refine lv_iload_n hx hb dX1_kindAt_0 rfl (lv_at hl 0 rfl) ?_
  refine lv_if_ne (tgt := 8) hx hb dX1_kindAt_1 (by decide) (fun c1 => ?_) (fun c1 => ?_)
  · refine lv_iconst (v := 0) hx hb dX1_kindAt_8 (by decide) ?_
    exact kr_eI hx hb hr hlocks rfl (if_neg c1).symm dX1_kindAt_9
  · refine lv_iconst (v := 1) hx hb dX1_kindAt_4 (by decide) ?_
    refine lv_goto (tgt := 9) hx hb dX1_kindAt_5 (by decide) ?_
    exact kr_eI hx hb hr hlocks rfl (if_pos c1).symm dX1_kindAt_9
set_option maxHeartbeats 4000000 in
set_option maxRecDepth 100000 in
theorem c_X1_goes (l : Launch) (D : va_G) (cy : ClassId) (h : Nat) (a : Nat → Nat) (th : Int32) (N L : Nat) (A : Nat → Nat → Int32) (j : Nat) (ld : Int32) (hw : kr_wf N L A) (hj : j < N) : Met l yX1_goes (Cond.code yX1_goes cX1_goes 3 (some .boolean) :: kr_all) ({ frames := 0, cells := 0, slots := 0, locals := 0 }) (va_Pc [.ref h, .int (nI j), .int ld] (kr_R D (kr_W1 cy h a th N L A) cy)) (vp_Si (fun r => r = if kr_go A ld (nI j) then 1 else 0)) 0 0 (fun _ => False) := by
  refine kr_of (by decide) (Nat.le_of_ble_eq_true rfl) ?_
  intro p e s m below meth c ls hx hb hml hr hts hown hlocks hin hv hl
  obtain ⟨hP, hK⟩ := hv
  have hown : s.vm.findClass RX1 = some m.cls := hown
  have hl : lv_has ls 3 [(0, .ref h), (1, .int (nI j)), (2, .int ld)] := hl
  have hN := hw.1
  have h3 := kr_le0 (hw.2.2.1 j hj).2.2.1
  refine lv_aload_n hx hb dX1_goes_0 rfl (lv_at hl 0 rfl) ?_
  refine va_get (ci := 1) (v := .ref (a 3)) (C := RX1) (T := TX1) (N := 11) hx hb hts kr_wsX1 hown hK hP 0 rfl rfl 5 (by decide) (hts _ kq_547) (fun _ h9 => h9) rfl dX1_goes_1 ?_
  refine lv_iload_n hx hb dX1_goes_4 rfl (lv_at hl 1 rfl) ?_
  refine kr_ald hx hb hK hP 4 0 rfl rfl j (by omega) (by decide) dX1_goes_5 ?_
  refine lv_if_le (tgt := 23) hx hb dX1_goes_6 (by decide) (fun c6 => ?_) (fun c6 => ?_)
  · refine lv_iconst (v := 0) hx hb dX1_goes_23 (by decide) ?_
    exact kr_eZ hx hb hr hlocks rfl (Or.inl rfl) (if_neg (fun q => ((kr_go_nI (by omega)).mp q).1 (h3.mp c6))).symm dX1_goes_24
  · refine lv_aload_n hx hb dX1_goes_9 rfl (lv_at hl 0 rfl) ?_
    refine va_get (ci := 1) (v := .ref (a 3)) (C := RX1) (T := TX1) (N := 11) hx hb hts kr_wsX1 hown hK hP 0 rfl rfl 5 (by decide) (hts _ kq_547) (fun _ h9 => h9) rfl dX1_goes_10 ?_
    refine lv_iload_n hx hb dX1_goes_13 rfl (lv_at hl 1 rfl) ?_
    refine kr_ald hx hb hK hP 4 0 rfl rfl j (by omega) (by decide) dX1_goes_14 ?_
    refine lv_iload_n hx hb dX1_goes_15 rfl (lv_at hl 2 rfl) ?_
    refine lv_icmp_gt (tgt := 23) hx hb dX1_goes_16 (by decide) (fun c16 => ?_) (fun c16 => ?_)
    · refine lv_iconst (v := 0) hx hb dX1_goes_23 (by decide) ?_
      exact kr_eZ hx hb hr hlocks rfl (Or.inl rfl) (if_neg (fun q => (kr_ngt c16) ((kr_go_nI (by omega)).mp q).2)).symm dX1_goes_24
    · refine lv_iconst (v := 1) hx hb dX1_goes_19 (by decide) ?_
      refine lv_goto (tgt := 24) hx hb dX1_goes_20 (by decide) ?_
      exact kr_eZ hx hb hr hlocks rfl (Or.inr rfl) (if_pos ((kr_go_nI (by omega)).mpr ⟨fun q => c6 (h3.mpr q), kr_nlt c16⟩)).symm dX1_goes_24
theorem kg_RX1_52 : GoodIn kr_all (wsV RX1 52 RX1 yX1_goes (Cond.code yX1_goes cX1_goes 3 (some .boolean) :: kr_all)) := kr_gV kq_641 kq_643 kq_30 kq_49 kq_644
set_option maxHeartbeats 4000000 in
set_option maxRecDepth 100000 in
theorem c_X1_form (l : Launch) (D : va_G) (cy : ClassId) (h : Nat) (a : Nat → Nat) (th : Int32) (N L : Nat) (A : Nat → Nat → Int32) (x ld : Int32) (hw : kr_wf N L A) (hx0 : kr_kn N x) : Met l yX1_form (Cond.code yX1_form cX1_form 4 (some .int) :: kr_all) ({ frames := 1, cells := 0, slots := 0, locals := 22 }) (va_Pc [.ref h, .int x, .int ld] (kr_R D (kr_W1 cy h a th N L A) cy)) (vp_Si (fun r => r = kr_fm A ld 16 x)) 0 0 (fun _ => False) := by
  refine kr_of (by decide) (Nat.le_of_ble_eq_true rfl) ?_
  intro p e s m below meth c ls hx hb hml hr hts hown hlocks hin hv hl
  obtain ⟨hP, hK⟩ := hv
  have hown : s.vm.findClass RX1 = some m.cls := hown
  have hl : lv_has ls 4 [(0, .ref h), (1, .int x), (2, .int ld)] := hl
  have hN := hw.1
  refine lv_iload_n hx hb dX1_form_0 rfl (lv_at hl 1 rfl) ?_
  refine lv_istore_n (lv' := [(3, .int x), (0, .ref h), (1, .int x), (2, .int ld)]) hx hb dX1_form_1 rfl hl (by decide) rfl (fun ls hl => ?_)
  refine kr_lp (nL := 4) (fun z : Int32 => [(3, .int z), (0, .ref h), (1, .int x), (2, .int ld)]) (fun z => kr_kn N z ∧ kr_fm A ld 16 z = kr_fm A ld 16 x) (fun z => kr_mz z) ?_ (x) ⟨hx0, rfl⟩ (lv_sub hl [0, 1, 2, 3] rfl)
  clear hl
  intro z ls hI hl ih
  obtain ⟨f, rfl⟩ : ∃ y, y = z := ⟨_, rfl⟩
  have hl : lv_has ls 4 [(3, .int f), (0, .ref h), (1, .int x), (2, .int ld)] := hl
  obtain ⟨hf, he⟩ : kr_kn N f ∧ kr_fm A ld 16 f = kr_fm A ld 16 x := hI
  refine lv_iload_n hx hb dX1_form_2 rfl (lv_at hl 0 rfl) ?_
  refine lv_iconst (v := -1) hx hb dX1_form_3 (by decide) ?_
  refine lv_icmp_eq (tgt := 26) hx hb dX1_form_4 (by decide) (fun c4 => ?_) (fun c4 => ?_)
  · subst c4
    refine lv_iload_n hx hb dX1_form_26 rfl (lv_at hl 0 rfl) ?_
    exact kr_eI hx hb hr hlocks rfl ((kr_fm_no (fun z => z.1 rfl) _).symm.trans he) dX1_form_27
  · obtain ⟨j, hj, rfl⟩ := kr_kn_of hN hf c4
    refine lv_aload_n hx hb dX1_form_7 rfl (lv_at hl 1 rfl) ?_
    refine lv_iload_n hx hb dX1_form_8 rfl (lv_at hl 0 rfl) ?_
    refine lv_iload_n hx hb dX1_form_9 rfl (lv_at hl 3 rfl) ?_
    refine kr_vI (n := 2) (As := [.int (nI j), .int ld]) (rest := []) ⟨hx, hb, hml, hown, hts⟩ (c_X1_goes l D cy h a th N L A j ld hw (by omega)) kg_RX1_52 ⟨rfl, rfl⟩ (by decide +kernel) ⟨Nat.le_of_ble_eq_true rfl, Nat.le_of_ble_eq_true rfl⟩ (kr_pv1 hP hK) rfl hl.1 rfl (Nat.le_of_ble_eq_true rfl) dX1_form_10 ⟨Nat.zero_le _, Nat.zero_le _⟩ (fun r9 e9 => ?_)
    subst e9
    refine lv_if_eq (tgt := 26) hx hb dX1_form_13 (by decide) (fun c13 => ?_) (fun c13 => ?_)
    · refine lv_iload_n hx hb dX1_form_26 rfl (lv_at hl 0 rfl) ?_
      exact kr_eI hx hb hr hlocks rfl ((kr_fm_no (kr_if0 c13) _).symm.trans he) dX1_form_27
    · rw [kr_fm_16 hw hj (kr_if1 c13)] at he
      refine lv_aload_n hx hb dX1_form_16 rfl (lv_at hl 1 rfl) ?_
      refine va_get (ci := 1) (v := .ref (a 4)) (C := RX1) (T := TX1) (N := 11) hx hb hts kr_wsX1 hown hK hP 0 rfl rfl 6 (by decide) (hts _ kq_548) (fun _ h9 => h9) rfl dX1_form_17 ?_
      refine lv_iload_n hx hb dX1_form_20 rfl (lv_at hl 0 rfl) ?_
      refine kr_ald hx hb hK hP 5 0 rfl rfl j (by omega) (by decide) dX1_form_21 ?_
      refine lv_istore_n (lv' := [(3, .int (A 4 j)), (0, .ref h), (1, .int x), (2, .int ld)]) hx hb dX1_form_22 rfl hl (by decide) rfl (fun ls hl => ?_)
      refine lv_goto (tgt := 2) hx hb dX1_form_23 (by decide) ?_
      exact ih (A 4 j) ls ⟨hw.kn hj, he⟩ (kr_mz_lt hw hj) (lv_sub hl [0, 1, 2, 3] rfl)
set_option maxHeartbeats 4000000 in
set_option maxRecDepth 100000 in
theorem c_X1_often (l : Launch) (D : va_G) (cy : ClassId) (h : Nat) (a : Nat → Nat) (th : Int32) (N L : Nat) (A : Nat → Nat → Int32) (k : Nat) (ld : Int32) (hw : kr_wf N L A) (hk : k < N) : Met l yX1_often (Cond.code yX1_often cX1_often 5 (some .int) :: kr_all) ({ frames := 1, cells := 0, slots := 0, locals := 22 }) (va_Pc [.ref h, .int (nI k), .int ld] (kr_R D (kr_W1 cy h a th N L A) cy)) (vp_Si (fun r => r = nI (kr_sp A ld 16 (nI k)))) 0 0 (fun _ => False) := by
  refine kr_of (by decide) (Nat.le_of_ble_eq_true rfl) ?_
  intro p e s m below meth c ls hx hb hml hr hts hown hlocks hin hv hl
  obtain ⟨hP, hK⟩ := hv
  have hown : s.vm.findClass RX1 = some m.cls := hown
  have hl : lv_has ls 5 [(0, .ref h), (1, .int (nI k)), (2, .int ld)] := hl
  have hN := hw.1
  refine lv_iconst (v := 0) hx hb dX1_often_0 (by decide) ?_
  refine lv_istore_n (lv' := [(3, .int 0), (0, .ref h), (1, .int (nI k)), (2, .int ld)]) hx hb dX1_often_1 rfl hl (by decide) rfl (fun ls hl => ?_)
  refine lv_iload_n hx hb dX1_often_2 rfl (lv_at hl 2 rfl) ?_
  refine lv_istore (lv' := [(4, .int (nI k)), (3, .int 0), (0, .ref h), (1, .int (nI k)), (2, .int ld)]) hx hb dX1_often_3 hl (by decide) rfl (fun ls hl => ?_)
  refine kr_lp (nL := 5) (fun z : Nat × Int32 => [(4, .int z.2), (3, .int (nI z.1)), (0, .ref h), (1, .int (nI k)), (2, .int ld)]) (fun z => kr_kn N z.2 ∧ z.1 + kr_sp A ld 16 z.2 = kr_sp A ld 16 (nI k)) (fun z => kr_mz z.2) ?_ (0, nI k) ⟨Or.inr ⟨k, hk, rfl⟩, Nat.zero_add _⟩ (lv_sub hl [0, 1, 2, 3, 4] rfl)
  clear hl
  intro z ls hI hl ih
  obtain ⟨g, f⟩ := z
  have hl : lv_has ls 5 [(4, .int f), (3, .int (nI g)), (0, .ref h), (1, .int (nI k)), (2, .int ld)] := hl
  obtain ⟨hf, he⟩ : kr_kn N f ∧ g + kr_sp A ld 16 f = kr_sp A ld 16 (nI k) := hI
  refine lv_iload hx hb dX1_often_5 (lv_at hl 0 rfl) ?_
  refine lv_iconst (v := -1) hx hb dX1_often_7 (by decide) ?_
  refine lv_icmp_eq (tgt := 36) hx hb dX1_often_8 (by decide) (fun c8 => ?_) (fun c8 => ?_)
  · subst c8
    rw [kr_sp_no (fun z => z.1 rfl)] at he
    refine lv_iload_n hx hb dX1_often_36 rfl (lv_at hl 1 rfl) ?_
    exact kr_eI hx hb hr hlocks rfl (congrArg nI he) dX1_often_37
  · obtain ⟨j, hj, rfl⟩ := kr_kn_of hN hf c8
    refine lv_aload_n hx hb dX1_often_11 rfl (lv_at hl 2 rfl) ?_
    refine lv_iload hx hb dX1_often_12 (lv_at hl 0 rfl) ?_
    refine lv_iload_n hx hb dX1_often_14 rfl (lv_at hl 4 rfl) ?_
    refine kr_vI (n := 2) (As := [.int (nI j), .int ld]) (rest := []) ⟨hx, hb, hml, hown, hts⟩ (c_X1_goes l D cy h a th N L A j ld hw (by omega)) kg_RX1_52 ⟨rfl, rfl⟩ (by decide +kernel) ⟨Nat.le_of_ble_eq_true rfl, Nat.le_of_ble_eq_true rfl⟩ (kr_pv1 hP hK) rfl hl.1 rfl (Nat.le_of_ble_eq_true rfl) dX1_often_15 ⟨Nat.zero_le _, Nat.zero_le _⟩ (fun r9 e9 => ?_)
    subst e9
    refine lv_if_eq (tgt := 36) hx hb dX1_often_18 (by decide) (fun c18 => ?_) (fun c18 => ?_)
    · rw [kr_sp_no (kr_if0 c18)] at he
      refine lv_iload_n hx hb dX1_often_36 rfl (lv_at hl 1 rfl) ?_
      exact kr_eI hx hb hr hlocks rfl (congrArg nI he) dX1_often_37
    · rw [kr_sp_16 hw hj (kr_if1 c18)] at he
      refine lv_iinc (v := nI (g + 1)) (lv' := [(3, .int (nI (g + 1))), (4, .int (nI j)), (0, .ref h), (1, .int (nI k)), (2, .int ld)]) hx hb dX1_often_21 hl (k := 1) rfl (kr_inc _) (by decide) rfl (fun ls hl => ?_)
      refine lv_aload_n hx hb dX1_often_24 rfl (lv_at hl 2 rfl) ?_
      refine va_get (ci := 1) (v := .ref (a 4)) (C := RX1) (T := TX1) (N := 11) hx hb hts kr_wsX1 hown hK hP 0 rfl rfl 6 (by decide) (hts _ kq_548) (fun _ h9 => h9) rfl dX1_often_25 ?_
      refine lv_iload hx hb dX1_often_28 (lv_at hl 1 rfl) ?_
      refine kr_ald hx hb hK hP 5 0 rfl rfl j (by omega) (by decide) dX1_often_30 ?_
      refine lv_istore (lv' := [(4, .int (A 4 j)), (3, .int (nI (g + 1))), (0, .ref h), (1, .int (nI k)), (2, .int ld)]) hx hb dX1_often_31 hl (by decide) rfl (fun ls hl => ?_)
      refine lv_goto (tgt := 5) hx hb dX1_often_33 (by decide) ?_
      exact ih (g + 1, A 4 j) ls ⟨hw.kn hj, by show g + 1 + kr_sp A ld 16 (A 4 j) = _; omega⟩ (kr_mz_lt hw hj) (lv_sub hl [0, 1, 2, 3, 4] rfl)
set_option maxHeartbeats 4000000 in
set_option maxRecDepth 100000 in
theorem c_X1_apart (l : Launch) (D : va_G) (cy : ClassId) (h : Nat) (a : Nat → Nat) (th : Int32) (N L : Nat) (A : Nat → Nat → Int32) (k : Nat) (hw : kr_wf N L A) (hk : k < N) : Met l yX1_apart (Cond.code yX1_apart cX1_apart 4 (some .int) :: kr_all) ({ frames := 1, cells := 0, slots := 0, locals := 13 }) (va_Pc [.ref h, .int (nI k)] (kr_R D (kr_W1 cy h a th N L A) cy)) (vp_Si (fun r => r = kr_fa A 16 (nI k) 0)) 0 0 (fun _ => False) := by
  refine kr_of (by decide) (Nat.le_of_ble_eq_true rfl) ?_
  intro p e s m below meth c ls hx hb hml hr hts hown hlocks hin hv hl
  obtain ⟨hP, hK⟩ := hv
  have hown : s.vm.findClass RX1 = some m.cls := hown
  have hl : lv_has ls 4 [(0, .ref h), (1, .int (nI k))] := hl
  have hN := hw.1
  refine lv_iconst (v := 0) hx hb dX1_apart_0 (by decide) ?_
  refine lv_istore_n (lv' := [(2, .int 0), (0, .ref h), (1, .int (nI k))]) hx hb dX1_apart_1 rfl hl (by decide) rfl (fun ls hl => ?_)
  refine lv_iload_n hx hb dX1_apart_2 rfl (lv_at hl 2 rfl) ?_
  refine lv_istore_n (lv' := [(3, .int (nI k)), (2, .int 0), (0, .ref h), (1, .int (nI k))]) hx hb dX1_apart_3 rfl hl (by decide) rfl (fun ls hl => ?_)
  refine kr_lp (nL := 4) (fun z : Int32 × Int32 => [(3, .int z.1), (2, .int z.2), (0, .ref h), (1, .int (nI k))]) (fun z => kr_kn N z.1 ∧ kr_fa A 16 z.1 z.2 = kr_fa A 16 (nI k) 0) (fun z => kr_mz z.1) ?_ (nI k, 0) ⟨Or.inr ⟨k, hk, rfl⟩, rfl⟩ (lv_sub hl [0, 1, 2, 3] rfl)
  clear hl
  intro z ls hI hl ih
  obtain ⟨f, g⟩ := z
  have hl : lv_has ls 4 [(3, .int f), (2, .int g), (0, .ref h), (1, .int (nI k))] := hl
  obtain ⟨hf, he⟩ : kr_kn N f ∧ kr_fa A 16 f g = kr_fa A 16 (nI k) 0 := hI
  refine lv_iload_n hx hb dX1_apart_4 rfl (lv_at hl 0 rfl) ?_
  refine lv_iconst (v := -1) hx hb dX1_apart_5 (by decide) ?_
  refine lv_icmp_eq (tgt := 41) hx hb dX1_apart_6 (by decide) (fun c6 => ?_) (fun c6 => ?_)
  · subst c6
    refine lv_iload_n hx hb dX1_apart_41 rfl (lv_at hl 1 rfl) ?_
    exact kr_eI hx hb hr hlocks rfl ((kr_fa_no _).symm.trans he) dX1_apart_42
  · obtain ⟨j, hj, rfl⟩ := kr_kn_of hN hf c6
    refine lv_aload_n hx hb dX1_apart_9 rfl (lv_at hl 2 rfl) ?_
    refine va_get (ci := 1) (v := .ref (a 3)) (C := RX1) (T := TX1) (N := 11) hx hb hts kr_wsX1 hown hK hP 0 rfl rfl 5 (by decide) (hts _ kq_547) (fun _ h9 => h9) rfl dX1_apart_10 ?_
    refine lv_iload_n hx hb dX1_apart_13 rfl (lv_at hl 0 rfl) ?_
    refine kr_ald hx hb hK hP 4 0 rfl rfl j (by omega) (by decide) dX1_apart_14 ?_
    refine lv_if_ne (tgt := 20) hx hb dX1_apart_15 (by decide) (fun c15 => ?_) (fun c15 => ?_)
    · rw [kr_fa_16 hw hj c15] at he
      refine lv_iload_n hx hb dX1_apart_20 rfl (lv_at hl 1 rfl) ?_
      refine lv_aload_n hx hb dX1_apart_21 rfl (lv_at hl 2 rfl) ?_
      refine va_get (ci := 1) (v := .ref (a 3)) (C := RX1) (T := TX1) (N := 11) hx hb hts kr_wsX1 hown hK hP 0 rfl rfl 5 (by decide) (hts _ kq_547) (fun _ h9 => h9) rfl dX1_apart_22 ?_
      refine lv_iload_n hx hb dX1_apart_25 rfl (lv_at hl 0 rfl) ?_
      refine kr_ald hx hb hK hP 4 0 rfl rfl j (by omega) (by decide) dX1_apart_26 ?_
      refine va_mmax hx hb (hml.trans hl.1.symm) hown (hts _ kq_730) (hts _ kq_212) (hts _ kq_56) (hts _ kq_213) (Nat.le_of_ble_eq_true rfl) (Nat.le_of_ble_eq_true rfl) (Nat.zero_le _) (Nat.zero_le _) dX1_apart_27 ?_
      show W _ _ _ _ _ _ _ _ _ _ _ _ _ _ _ (F0 _ _ _ (.int (kr_mx g (A 3 j)) :: _))
      refine lv_istore_n (lv' := [(2, .int (kr_mx g (A 3 j))), (3, .int (nI j)), (0, .ref h), (1, .int (nI k))]) hx hb dX1_apart_30 rfl hl (by decide) rfl (fun ls hl => ?_)
      refine lv_aload_n hx hb dX1_apart_31 rfl (lv_at hl 2 rfl) ?_
      refine va_get (ci := 1) (v := .ref (a 4)) (C := RX1) (T := TX1) (N := 11) hx hb hts kr_wsX1 hown hK hP 0 rfl rfl 6 (by decide) (hts _ kq_548) (fun _ h9 => h9) rfl dX1_apart_32 ?_
      refine lv_iload_n hx hb dX1_apart_35 rfl (lv_at hl 1 rfl) ?_
      refine kr_ald hx hb hK hP 5 0 rfl rfl j (by omega) (by decide) dX1_apart_36 ?_
      refine lv_istore_n (lv' := [(3, .int (A 4 j)), (2, .int (kr_mx g (A 3 j))), (0, .ref h), (1, .int (nI k))]) hx hb dX1_apart_37 rfl hl (by decide) rfl (fun ls hl => ?_)
      refine lv_goto (tgt := 4) hx hb dX1_apart_38 (by decide) ?_
      exact ih (A 4 j, kr_mx g (A 3 j)) ls ⟨hw.kn hj, he⟩ (kr_mz_lt hw hj) (lv_sub hl [0, 1, 2, 3] rfl)
    · refine lv_iconst (v := 0) hx hb dX1_apart_18 (by decide) ?_
      exact kr_eI hx hb hr hlocks rfl ((kr_fa_0 (i := 0) (by omega) (by omega) c15).symm.trans he) dX1_apart_19
set_option maxHeartbeats 4000000 in
set_option maxRecDepth 100000 in
theorem c_X1_isAhead (l : Launch) (D : va_G) (cy : ClassId) (h : Nat) (a : Nat → Nat) (th : Int32) (N L : Nat) (A : Nat → Nat → Int32) (j k : Nat) (hj : j < 16) (hk : k < 16) : Met l yX1_isAhead (Cond.code yX1_isAhead cX1_isAhead 3 (some .boolean) :: kr_all) ({ frames := 0, cells := 0, slots := 0, locals := 0 }) (va_Pc [.ref h, .int (nI j), .int (nI k)] (kr_R D (kr_W1 cy h a th N L A) cy)) (vp_Si (fun r => r = if kr_ah A j k then 1 else 0)) 0 0 (fun _ => False) := by
  refine kr_of (by decide) (Nat.le_of_ble_eq_true rfl) ?_
  intro p e s m below meth c ls hx hb hml hr hts hown hlocks hin hv hl
  obtain ⟨hP, hK⟩ := hv
  have hown : s.vm.findClass RX1 = some m.cls := hown
  have hl : lv_has ls 3 [(0, .ref h), (1, .int (nI j)), (2, .int (nI k))] := hl
  refine lv_aload_n hx hb dX1_isAhead_0 rfl (lv_at hl 0 rfl) ?_
  refine va_get (ci := 1) (v := .ref (a 0)) (C := RX1) (T := TX1) (N := 11) hx hb hts kr_wsX1 hown hK hP 0 rfl rfl 2 (by decide) (hts _ kq_544) (fun _ h9 => h9) rfl dX1_isAhead_1 ?_
  refine lv_iload_n hx hb dX1_isAhead_4 rfl (lv_at hl 1 rfl) ?_
  refine kr_ald hx hb hK hP 1 0 rfl rfl j (by omega) (by decide) dX1_isAhead_5 ?_
  refine lv_aload_n hx hb dX1_isAhead_6 rfl (lv_at hl 0 rfl) ?_
  refine va_get (ci := 1) (v := .ref (a 0)) (C := RX1) (T := TX1) (N := 11) hx hb hts kr_wsX1 hown hK hP 0 rfl rfl 2 (by decide) (hts _ kq_544) (fun _ h9 => h9) rfl dX1_isAhead_7 ?_
  refine lv_iload_n hx hb dX1_isAhead_10 rfl (lv_at hl 2 rfl) ?_
  refine kr_ald hx hb hK hP 1 0 rfl rfl k (by omega) (by decide) dX1_isAhead_11 ?_
  refine lv_icmp_eq (tgt := 17) hx hb dX1_isAhead_12 (by decide) (fun c12 => ?_) (fun c12 => ?_)
  · refine lv_aload_n hx hb dX1_isAhead_17 rfl (lv_at hl 0 rfl) ?_
    refine va_get (ci := 1) (v := .ref (a 1)) (C := RX1) (T := TX1) (N := 11) hx hb hts kr_wsX1 hown hK hP 0 rfl rfl 3 (by decide) (hts _ kq_545) (fun _ h9 => h9) rfl dX1_isAhead_18 ?_
    refine lv_iload_n hx hb dX1_isAhead_21 rfl (lv_at hl 1 rfl) ?_
    refine kr_ald hx hb hK hP 2 0 rfl rfl j (by omega) (by decide) dX1_isAhead_22 ?_
    refine lv_aload_n hx hb dX1_isAhead_23 rfl (lv_at hl 0 rfl) ?_
    refine va_get (ci := 1) (v := .ref (a 1)) (C := RX1) (T := TX1) (N := 11) hx hb hts kr_wsX1 hown hK hP 0 rfl rfl 3 (by decide) (hts _ kq_545) (fun _ h9 => h9) rfl dX1_isAhead_24 ?_
    refine lv_iload_n hx hb dX1_isAhead_27 rfl (lv_at hl 2 rfl) ?_
    refine kr_ald hx hb hK hP 2 0 rfl rfl k (by omega) (by decide) dX1_isAhead_28 ?_
    refine lv_icmp_eq (tgt := 53) hx hb dX1_isAhead_29 (by decide) (fun c29 => ?_) (fun c29 => ?_)
    · refine lv_aload_n hx hb dX1_isAhead_53 rfl (lv_at hl 0 rfl) ?_
      refine va_get (ci := 1) (v := .ref (a 2)) (C := RX1) (T := TX1) (N := 11) hx hb hts kr_wsX1 hown hK hP 0 rfl rfl 4 (by decide) (hts _ kq_546) (fun _ h9 => h9) rfl dX1_isAhead_54 ?_
      refine lv_iload_n hx hb dX1_isAhead_57 rfl (lv_at hl 1 rfl) ?_
      refine kr_ald hx hb hK hP 3 0 rfl rfl j (by omega) (by decide) dX1_isAhead_58 ?_
      refine lv_aload_n hx hb dX1_isAhead_59 rfl (lv_at hl 0 rfl) ?_
      refine va_get (ci := 1) (v := .ref (a 2)) (C := RX1) (T := TX1) (N := 11) hx hb hts kr_wsX1 hown hK hP 0 rfl rfl 4 (by decide) (hts _ kq_546) (fun _ h9 => h9) rfl dX1_isAhead_60 ?_
      refine lv_iload_n hx hb dX1_isAhead_63 rfl (lv_at hl 2 rfl) ?_
      refine kr_ald hx hb hK hP 3 0 rfl rfl k (by omega) (by decide) dX1_isAhead_64 ?_
      refine lv_icmp_lt (tgt := 88) hx hb dX1_isAhead_65 (by decide) (fun c65 => ?_) (fun c65 => ?_)
      · refine lv_iconst (v := 1) hx hb dX1_isAhead_88 (by decide) ?_
        refine lv_goto (tgt := 93) hx hb dX1_isAhead_89 (by decide) ?_
        exact kr_eZ hx hb hr hlocks rfl (Or.inr rfl) (if_pos (by unfold kr_ah kr_ia; rw [if_pos c29, if_neg (kr_ltne c65)]; exact ⟨c12, c65⟩)).symm dX1_isAhead_93
      · refine lv_aload_n hx hb dX1_isAhead_68 rfl (lv_at hl 0 rfl) ?_
        refine va_get (ci := 1) (v := .ref (a 2)) (C := RX1) (T := TX1) (N := 11) hx hb hts kr_wsX1 hown hK hP 0 rfl rfl 4 (by decide) (hts _ kq_546) (fun _ h9 => h9) rfl dX1_isAhead_69 ?_
        refine lv_iload_n hx hb dX1_isAhead_72 rfl (lv_at hl 1 rfl) ?_
        refine kr_ald hx hb hK hP 3 0 rfl rfl j (by omega) (by decide) dX1_isAhead_73 ?_
        refine lv_aload_n hx hb dX1_isAhead_74 rfl (lv_at hl 0 rfl) ?_
        refine va_get (ci := 1) (v := .ref (a 2)) (C := RX1) (T := TX1) (N := 11) hx hb hts kr_wsX1 hown hK hP 0 rfl rfl 4 (by decide) (hts _ kq_546) (fun _ h9 => h9) rfl dX1_isAhead_75 ?_
        refine lv_iload_n hx hb dX1_isAhead_78 rfl (lv_at hl 2 rfl) ?_
        refine kr_ald hx hb hK hP 3 0 rfl rfl k (by omega) (by decide) dX1_isAhead_79 ?_
        refine lv_icmp_ne (tgt := 92) hx hb dX1_isAhead_80 (by decide) (fun c80 => ?_) (fun c80 => ?_)
        · refine lv_iconst (v := 0) hx hb dX1_isAhead_92 (by decide) ?_
          exact kr_eZ hx hb hr hlocks rfl (Or.inl rfl) (if_neg (by unfold kr_ah kr_ia; rw [if_pos c29, if_neg c80]; exact fun z => c65 z.2)).symm dX1_isAhead_93
        · refine lv_iload_n hx hb dX1_isAhead_83 rfl (lv_at hl 1 rfl) ?_
          refine lv_iload_n hx hb dX1_isAhead_84 rfl (lv_at hl 2 rfl) ?_
          refine lv_icmp_ge (tgt := 92) hx hb dX1_isAhead_85 (by decide) (fun c85 => ?_) (fun c85 => ?_)
          · refine lv_iconst (v := 0) hx hb dX1_isAhead_92 (by decide) ?_
            exact kr_eZ hx hb hr hlocks rfl (Or.inl rfl) (if_neg (by unfold kr_ah kr_ia; rw [if_pos c29, if_pos c80]; have := kr_ge (by omega) (by omega) c85; omega)).symm dX1_isAhead_93
          · refine lv_iconst (v := 1) hx hb dX1_isAhead_88 (by decide) ?_
            refine lv_goto (tgt := 93) hx hb dX1_isAhead_89 (by decide) ?_
            exact kr_eZ hx hb hr hlocks rfl (Or.inr rfl) (if_pos (by unfold kr_ah kr_ia; rw [if_pos c29, if_pos c80]; exact ⟨c12, kr_lt (by omega) (by omega) c85⟩)).symm dX1_isAhead_93
    · refine lv_aload_n hx hb dX1_isAhead_32 rfl (lv_at hl 0 rfl) ?_
      refine va_get (ci := 1) (v := .ref (a 1)) (C := RX1) (T := TX1) (N := 11) hx hb hts kr_wsX1 hown hK hP 0 rfl rfl 3 (by decide) (hts _ kq_545) (fun _ h9 => h9) rfl dX1_isAhead_33 ?_
      refine lv_iload_n hx hb dX1_isAhead_36 rfl (lv_at hl 1 rfl) ?_
      refine kr_ald hx hb hK hP 2 0 rfl rfl j (by omega) (by decide) dX1_isAhead_37 ?_
      refine lv_aload_n hx hb dX1_isAhead_38 rfl (lv_at hl 0 rfl) ?_
      refine va_get (ci := 1) (v := .ref (a 1)) (C := RX1) (T := TX1) (N := 11) hx hb hts kr_wsX1 hown hK hP 0 rfl rfl 3 (by decide) (hts _ kq_545) (fun _ h9 => h9) rfl dX1_isAhead_39 ?_
      refine lv_iload_n hx hb dX1_isAhead_42 rfl (lv_at hl 2 rfl) ?_
      refine kr_ald hx hb hK hP 2 0 rfl rfl k (by omega) (by decide) dX1_isAhead_43 ?_
      refine lv_icmp_le (tgt := 51) hx hb dX1_isAhead_44 (by decide) (fun c44 => ?_) (fun c44 => ?_)
      · refine lv_iconst (v := 0) hx hb dX1_isAhead_51 (by decide) ?_
        exact kr_eZ hx hb hr hlocks rfl (Or.inl rfl) (if_neg (by unfold kr_ah kr_ia; rw [if_neg c29]; exact fun z => kr_ngt2 c44 z.2)).symm dX1_isAhead_52
      · refine lv_iconst (v := 1) hx hb dX1_isAhead_47 (by decide) ?_
        refine lv_goto (tgt := 52) hx hb dX1_isAhead_48 (by decide) ?_
        exact kr_eZ hx hb hr hlocks rfl (Or.inr rfl) (if_pos (by unfold kr_ah kr_ia; rw [if_neg c29]; exact ⟨c12, kr_nle2 c44⟩)).symm dX1_isAhead_52
  · refine lv_iconst (v := 0) hx hb dX1_isAhead_15 (by decide) ?_
    exact kr_eZ hx hb hr hlocks rfl (Or.inl rfl) (if_neg (fun z => c12 z.1)).symm dX1_isAhead_16
theorem kg_RX1_62 : GoodIn kr_all (wsV RX1 62 RX1 yX1_isAhead (Cond.code yX1_isAhead cX1_isAhead 3 (some .boolean) :: kr_all)) := kr_gV kq_698 kq_700 kq_36 kq_49 kq_701
set_option maxHeartbeats 4000000 in
set_option maxRecDepth 100000 in
theorem c_X1_rank (l : Launch) (D : va_G) (cy : ClassId) (h : Nat) (a : Nat → Nat) (th : Int32) (N L : Nat) (A : Nat → Nat → Int32) (k : Nat) (hN : N ≤ 16) (hk : k < N) : Met l yX1_rank (Cond.code yX1_rank cX1_rank 4 (some .int) :: kr_all) ({ frames := 1, cells := 0, slots := 0, locals := 22 }) (va_Pc [.ref h, .int (nI k)] (kr_R D (kr_W1 cy h a th N L A) cy)) (vp_Si (fun r => r = nI (kr_rk A k N))) 0 0 (fun _ => False) := by
  refine kr_of (by decide) (Nat.le_of_ble_eq_true rfl) ?_
  intro p e s m below meth c ls hx hb hml hr hts hown hlocks hin hv hl
  obtain ⟨hP, hK⟩ := hv
  have hown : s.vm.findClass RX1 = some m.cls := hown
  have hl : lv_has ls 4 [(0, .ref h), (1, .int (nI k))] := hl
  refine lv_iconst (v := 0) hx hb dX1_rank_0 (by decide) ?_
  refine lv_istore_n (lv' := [(2, .int 0), (0, .ref h), (1, .int (nI k))]) hx hb dX1_rank_1 rfl hl (by decide) rfl (fun ls hl => ?_)
  refine lv_iconst (v := 0) hx hb dX1_rank_2 (by decide) ?_
  refine lv_istore_n (lv' := [(3, .int 0), (2, .int 0), (0, .ref h), (1, .int (nI k))]) hx hb dX1_rank_3 rfl hl (by decide) rfl (fun ls hl => ?_)
  refine kr_lp (nL := 4) (fun z : Nat × Nat => [(3, .int (nI z.1)), (2, .int (nI z.2)), (0, .ref h), (1, .int (nI k))]) (fun z => z.1 ≤ N ∧ z.2 = kr_rk A k z.1) (fun z => N - z.1) ?_ (0, 0) ⟨by omega, rfl⟩ (lv_sub hl [0, 1, 2, 3] rfl)
  clear hl
  intro z ls hI hl ih
  obtain ⟨i, g⟩ := z
  have hl : lv_has ls 4 [(3, .int (nI i)), (2, .int (nI g)), (0, .ref h), (1, .int (nI k))] := hl
  obtain ⟨hi0, hg⟩ : i ≤ N ∧ g = kr_rk A k i := hI
  refine lv_iload_n hx hb dX1_rank_4 rfl (lv_at hl 0 rfl) ?_
  refine lv_aload_n hx hb dX1_rank_5 rfl (lv_at hl 2 rfl) ?_
  refine va_get (ci := 1) (v := .int (nI N)) (C := RX1) (T := TX1) (N := 11) hx hb hts kr_wsX1 hown hK hP 0 rfl rfl 1 (by decide) (hts _ kq_543) (fun _ h9 => h9) rfl dX1_rank_6 ?_
  refine lv_icmp_ge (tgt := 35) hx hb dX1_rank_9 (by decide) (fun c9 => ?_) (fun c9 => ?_)
  · have hi2 : i = N := by have := kr_ge (by omega) (by omega) c9; omega
    refine lv_iload_n hx hb dX1_rank_35 rfl (lv_at hl 1 rfl) ?_
    exact kr_eI hx hb hr hlocks rfl (by rw [hg, hi2]) dX1_rank_36
  · have hi : i < N := kr_lt (by omega) (by omega) c9
    refine lv_iload_n hx hb dX1_rank_12 rfl (lv_at hl 1 rfl) ?_
    refine lv_aload_n hx hb dX1_rank_13 rfl (lv_at hl 2 rfl) ?_
    refine lv_iload_n hx hb dX1_rank_14 rfl (lv_at hl 0 rfl) ?_
    refine lv_iload_n hx hb dX1_rank_15 rfl (lv_at hl 3 rfl) ?_
    refine kr_vI (n := 2) (As := [.int (nI i), .int (nI k)]) (rest := [.int (nI g)]) ⟨hx, hb, hml, hown, hts⟩ (c_X1_isAhead l D cy h a th N L A i k (by omega) (by omega)) kg_RX1_62 ⟨rfl, rfl⟩ (by decide +kernel) ⟨Nat.le_of_ble_eq_true rfl, Nat.le_of_ble_eq_true rfl⟩ (kr_pv1 hP hK) rfl hl.1 rfl (Nat.le_of_ble_eq_true rfl) dX1_rank_16 ⟨Nat.zero_le _, Nat.zero_le _⟩ (fun r9 e9 => ?_)
    subst e9
    refine lv_if_eq (tgt := 26) hx hb dX1_rank_19 (by decide) (fun c19 => ?_) (fun c19 => ?_)
    · refine lv_iconst (v := 0) hx hb dX1_rank_26 (by decide) ?_
      refine kr_iaddN hx hb g 0 dX1_rank_27 ?_
      refine lv_istore_n (lv' := [(2, .int (nI (g + 0))), (3, .int (nI i)), (0, .ref h), (1, .int (nI k))]) hx hb dX1_rank_28 rfl hl (by decide) rfl (fun ls hl => ?_)
      refine lv_iinc (v := nI (i + 1)) (lv' := [(3, .int (nI (i + 1))), (2, .int (nI (g + 0))), (0, .ref h), (1, .int (nI k))]) hx hb dX1_rank_29 hl (k := 1) rfl (kr_inc _) (by decide) rfl (fun ls hl => ?_)
      refine lv_goto (tgt := 4) hx hb dX1_rank_32 (by decide) ?_
      exact ih (i + 1, g + 0) ls ⟨by omega, by rw [hg, kr_rk_s, if_neg (kr_if0 c19)]⟩ (by show N - (i + 1) < N - i; omega) (lv_sub hl [0, 1, 2, 3] rfl)
    · refine lv_iconst (v := 1) hx hb dX1_rank_22 (by decide) ?_
      refine lv_goto (tgt := 27) hx hb dX1_rank_23 (by decide) ?_
      refine kr_iaddN hx hb g 1 dX1_rank_27 ?_
      refine lv_istore_n (lv' := [(2, .int (nI (g + 1))), (3, .int (nI i)), (0, .ref h), (1, .int (nI k))]) hx hb dX1_rank_28 rfl hl (by decide) rfl (fun ls hl => ?_)
      refine lv_iinc (v := nI (i + 1)) (lv' := [(3, .int (nI (i + 1))), (2, .int (nI (g + 1))), (0, .ref h), (1, .int (nI k))]) hx hb dX1_rank_29 hl (k := 1) rfl (kr_inc _) (by decide) rfl (fun ls hl => ?_)
      refine lv_goto (tgt := 4) hx hb dX1_rank_32 (by decide) ?_
      exact ih (i + 1, g + 1) ls ⟨by omega, by rw [hg, kr_rk_s, if_pos (kr_if1 c19)]⟩ (by show N - (i + 1) < N - i; omega) (lv_sub hl [0, 1, 2, 3] rfl)
set_option maxHeartbeats 4000000 in
set_option maxRecDepth 100000 in
theorem c_X1_strength (l : Launch) (D : va_G) (cy : ClassId) (h : Nat) (a : Nat → Nat) (th : Int32) (N L : Nat) (A : Nat → Nat → Int32) (q pl k : Nat) (hq : q < 6) (hp : pl < 5) (hk : k < 16) : Met l yX1_strength (Cond.code yX1_strength cX1_strength 5 (some .int) :: kr_all) ({ frames := 1, cells := 0, slots := 0, locals := 13 }) (va_Pc [.ref h, .int (nI q), .int (nI pl), .int (nI k)] (kr_R D (kr_W1 cy h a th N L A) cy)) (vp_Si (fun r => r = kr_st A q pl (nI k))) 0 0 (fun _ => False) := by
  refine kr_of (by decide) (Nat.le_of_ble_eq_true rfl) ?_
  intro p e s m below meth c ls hx hb hml hr hts hown hlocks hin hv hl
  obtain ⟨hP, hK⟩ := hv
  have hown : s.vm.findClass RX1 = some m.cls := hown
  have hl : lv_has ls 5 [(0, .ref h), (1, .int (nI q)), (2, .int (nI pl)), (3, .int (nI k))] := hl
  refine lv_aload_n hx hb dX1_strength_0 rfl (lv_at hl 0 rfl) ?_
  refine va_get (ci := 1) (v := .ref (a 7)) (C := RX1) (T := TX1) (N := 11) hx hb hts kr_wsX1 hown hK hP 0 rfl rfl 9 (by decide) (hts _ kq_551) (fun _ h9 => h9) rfl dX1_strength_1 ?_
  refine lv_iconst (v := 5) hx hb dX1_strength_4 (by decide) ?_
  refine lv_iload_n hx hb dX1_strength_5 rfl (lv_at hl 1 rfl) ?_
  refine kr_imulN hx hb 5 q dX1_strength_6 ?_
  refine lv_iload_n hx hb dX1_strength_7 rfl (lv_at hl 2 rfl) ?_
  refine kr_iaddN hx hb (5 * q) pl dX1_strength_8 ?_
  refine kr_ald hx hb hK hP 8 0 rfl rfl ((5 * q) + pl) (by omega) (by decide) dX1_strength_9 ?_
  refine lv_istore (lv' := [(4, .int (A 7 ((5 * q) + pl))), (0, .ref h), (1, .int (nI q)), (2, .int (nI pl)), (3, .int (nI k))]) hx hb dX1_strength_10 hl (by decide) rfl (fun ls hl => ?_)
  refine lv_iload_n hx hb dX1_strength_12 rfl (lv_at hl 3 rfl) ?_
  refine lv_if_le (tgt := 35) hx hb dX1_strength_13 (by decide) (fun c13 => ?_) (fun c13 => ?_)
  · refine lv_iload hx hb dX1_strength_35 (lv_at hl 0 rfl) ?_
    refine lv_aload_n hx hb dX1_strength_37 rfl (lv_at hl 1 rfl) ?_
    refine va_get (ci := 1) (v := .ref (a 1)) (C := RX1) (T := TX1) (N := 11) hx hb hts kr_wsX1 hown hK hP 0 rfl rfl 3 (by decide) (hts _ kq_545) (fun _ h9 => h9) rfl dX1_strength_38 ?_
    refine lv_iload_n hx hb dX1_strength_41 rfl (lv_at hl 4 rfl) ?_
    refine kr_ald hx hb hK hP 2 0 rfl rfl k (by omega) (by decide) dX1_strength_42 ?_
    refine lv_imul hx hb dX1_strength_43 ?_
    refine lv_bipush (v := 100) hx hb dX1_strength_44 (by decide) ?_
    refine lv_idiv hx hb dX1_strength_46 (by decide) ?_
    exact kr_eI hx hb hr hlocks rfl (kr_st_0 (by have := kr_ge (a := 0) (b := pl) (by decide) (by omega) c13; omega) (by omega)).symm dX1_strength_47
  · have hp0 : 0 < pl := kr_lt (a := 0) (by decide) (by omega) c13
    refine lv_iload hx hb dX1_strength_16 (lv_at hl 0 rfl) ?_
    refine lv_aload_n hx hb dX1_strength_18 rfl (lv_at hl 1 rfl) ?_
    refine va_get (ci := 1) (v := .ref (a 7)) (C := RX1) (T := TX1) (N := 11) hx hb hts kr_wsX1 hown hK hP 0 rfl rfl 9 (by decide) (hts _ kq_551) (fun _ h9 => h9) rfl dX1_strength_19 ?_
    refine lv_iconst (v := 5) hx hb dX1_strength_22 (by decide) ?_
    refine lv_iload_n hx hb dX1_strength_23 rfl (lv_at hl 2 rfl) ?_
    refine kr_imulN hx hb 5 q dX1_strength_24 ?_
    refine lv_iload_n hx hb dX1_strength_25 rfl (lv_at hl 3 rfl) ?_
    refine kr_iaddN hx hb (5 * q) pl dX1_strength_26 ?_
    refine lv_iconst (v := 1) hx hb dX1_strength_27 (by decide) ?_
    refine kr_isubN hx hb ((5 * q) + pl) 1 (by omega) dX1_strength_28 ?_
    refine kr_ald hx hb hK hP 8 0 rfl rfl (((5 * q) + pl) - 1) (by omega) (by decide) dX1_strength_29 ?_
    refine va_mmin hx hb (hml.trans hl.1.symm) hown (hts _ kq_649) (hts _ kq_209) (hts _ kq_56) (hts _ kq_210) (Nat.le_of_ble_eq_true rfl) (Nat.le_of_ble_eq_true rfl) (Nat.zero_le _) (Nat.zero_le _) dX1_strength_30 ?_
    show W _ _ _ _ _ _ _ _ _ _ _ _ _ _ _ (F0 _ _ _ (.int (kr_mn (A 7 ((5 * q) + pl)) (A 7 (((5 * q) + pl) - 1))) :: _))
    refine lv_istore (lv' := [(4, .int (kr_mn (A 7 ((5 * q) + pl)) (A 7 (((5 * q) + pl) - 1)))), (0, .ref h), (1, .int (nI q)), (2, .int (nI pl)), (3, .int (nI k))]) hx hb dX1_strength_33 hl (by decide) rfl (fun ls hl => ?_)
    refine lv_iload hx hb dX1_strength_35 (lv_at hl 0 rfl) ?_
    refine lv_aload_n hx hb dX1_strength_37 rfl (lv_at hl 1 rfl) ?_
    refine va_get (ci := 1) (v := .ref (a 1)) (C := RX1) (T := TX1) (N := 11) hx hb hts kr_wsX1 hown hK hP 0 rfl rfl 3 (by decide) (hts _ kq_545) (fun _ h9 => h9) rfl dX1_strength_38 ?_
    refine lv_iload_n hx hb dX1_strength_41 rfl (lv_at hl 4 rfl) ?_
    refine kr_ald hx hb hK hP 2 0 rfl rfl k (by omega) (by decide) dX1_strength_42 ?_
    refine lv_imul hx hb dX1_strength_43 ?_
    refine lv_bipush (v := 100) hx hb dX1_strength_44 (by decide) ?_
    refine lv_idiv hx hb dX1_strength_46 (by decide) ?_
    exact kr_eI hx hb hr hlocks rfl (kr_st_s (by omega) (by omega)).symm dX1_strength_47
theorem kg_RX1_71 : GoodIn kr_all (wsV RX1 71 RX1 yX1_strength (Cond.code yX1_strength cX1_strength 5 (some .int) :: kr_all)) := kr_gV kq_645 kq_647 kq_31 kq_49 kq_648
set_option maxHeartbeats 4000000 in
set_option maxRecDepth 100000 in
theorem c_X1_now (l : Launch) (D : va_G) (cy : ClassId) (h : Nat) (a : Nat → Nat) (th : Int32) (N L : Nat) (A : Nat → Nat → Int32) (q pl : Nat) (hw : kr_wf N L A) (hq : q < L) (hp : pl < kr_rc A q) : Met l yX1_now (Cond.code yX1_now cX1_now 3 (some .int) :: kr_all) ({ frames := 2, cells := 0, slots := 0, locals := 37 }) (va_Pc [.ref h, .int (nI q), .int (nI pl)] (kr_R D (kr_W1 cy h a th N L A) cy)) (vp_Si (fun r => r = kr_nw A q pl)) 0 0 (fun _ => False) := by
  refine kr_of (by decide) (Nat.le_of_ble_eq_true rfl) ?_
  intro p e s m below meth c ls hx hb hml hr hts hown hlocks hin hv hl
  obtain ⟨hP, hK⟩ := hv
  have hown : s.vm.findClass RX1 = some m.cls := hown
  have hl : lv_has ls 3 [(0, .ref h), (1, .int (nI q)), (2, .int (nI pl))] := hl
  have hN := hw.1
  have hL := hw.2.1
  have hrc := (hw.rc hq).1
  refine lv_aload_n hx hb dX1_now_0 rfl (lv_at hl 0 rfl) ?_
  refine lv_iload_n hx hb dX1_now_1 rfl (lv_at hl 1 rfl) ?_
  refine lv_iload_n hx hb dX1_now_2 rfl (lv_at hl 2 rfl) ?_
  refine lv_aload_n hx hb dX1_now_3 rfl (lv_at hl 0 rfl) ?_
  refine va_get (ci := 1) (v := .ref (a 6)) (C := RX1) (T := TX1) (N := 11) hx hb hts kr_wsX1 hown hK hP 0 rfl rfl 10 (by decide) (hts _ kq_552) (fun _ h9 => h9) rfl dX1_now_4 ?_
  refine lv_iconst (v := 5) hx hb dX1_now_7 (by decide) ?_
  refine lv_iload_n hx hb dX1_now_8 rfl (lv_at hl 1 rfl) ?_
  refine kr_imulN hx hb 5 q dX1_now_9 ?_
  refine lv_iload_n hx hb dX1_now_10 rfl (lv_at hl 2 rfl) ?_
  refine kr_iaddN hx hb (5 * q) pl dX1_now_11 ?_
  refine kr_ald hx hb hK hP 7 0 rfl rfl ((5 * q) + pl) (by omega) (by decide) dX1_now_12 ?_
  obtain ⟨k, hk, ek⟩ := hw.tk hq hp
  rw [ek]
  refine kr_vI (n := 3) (As := [.int (nI q), .int (nI pl), .int (nI k)]) (rest := []) ⟨hx, hb, hml, hown, hts⟩ (c_X1_strength l D cy h a th N L A q pl k (by omega) (by omega) (by omega)) kg_RX1_71 ⟨rfl, rfl⟩ (by decide +kernel) ⟨Nat.le_of_ble_eq_true rfl, Nat.le_of_ble_eq_true rfl⟩ (kr_pv1 hP hK) rfl hl.1 rfl (Nat.le_of_ble_eq_true rfl) dX1_now_13 ⟨Nat.zero_le _, Nat.zero_le _⟩ (fun r9 e9 => ?_)
  subst e9
  exact kr_eI hx hb hr hlocks rfl (by unfold kr_nw; rw [ek]) dX1_now_16
theorem kg_RX1_68 : GoodIn kr_all (wsV RX1 68 RX1 yX1_form (Cond.code yX1_form cX1_form 4 (some .int) :: kr_all)) := kr_gV kq_637 kq_639 kq_29 kq_49 kq_640
set_option maxHeartbeats 4000000 in
set_option maxRecDepth 100000 in
theorem c_X1_placeHolds (l : Launch) (D : va_G) (cy : ClassId) (h : Nat) (a : Nat → Nat) (th : Int32) (N L : Nat) (A : Nat → Nat → Int32) (q pl : Nat) (ld : Int32) (hw : kr_wf N L A) (hq : q < L) (hp : pl < kr_rc A q) : Met l yX1_placeHolds (Cond.code yX1_placeHolds cX1_placeHolds 5 (some .boolean) :: kr_all) ({ frames := 2, cells := 0, slots := 0, locals := 45 }) (va_Pc [.ref h, .int (nI q), .int (nI pl), .int ld] (kr_R D (kr_W1 cy h a th N L A) cy)) (vp_Si (fun r => r = if kr_ph A q ld pl then 1 else 0)) 0 0 (fun _ => False) := by
  refine kr_of (by decide) (Nat.le_of_ble_eq_true rfl) ?_
  intro p e s m below meth c ls hx hb hml hr hts hown hlocks hin hv hl
  obtain ⟨hP, hK⟩ := hv
  have hown : s.vm.findClass RX1 = some m.cls := hown
  have hl : lv_has ls 5 [(0, .ref h), (1, .int (nI q)), (2, .int (nI pl)), (3, .int ld)] := hl
  have hN := hw.1
  have hL := hw.2.1
  have hrc := (hw.rc hq).1
  refine lv_aload_n hx hb dX1_placeHolds_0 rfl (lv_at hl 0 rfl) ?_
  refine lv_aload_n hx hb dX1_placeHolds_1 rfl (lv_at hl 0 rfl) ?_
  refine va_get (ci := 1) (v := .ref (a 6)) (C := RX1) (T := TX1) (N := 11) hx hb hts kr_wsX1 hown hK hP 0 rfl rfl 10 (by decide) (hts _ kq_552) (fun _ h9 => h9) rfl dX1_placeHolds_2 ?_
  refine lv_iconst (v := 5) hx hb dX1_placeHolds_5 (by decide) ?_
  refine lv_iload_n hx hb dX1_placeHolds_6 rfl (lv_at hl 1 rfl) ?_
  refine kr_imulN hx hb 5 q dX1_placeHolds_7 ?_
  refine lv_iload_n hx hb dX1_placeHolds_8 rfl (lv_at hl 2 rfl) ?_
  refine kr_iaddN hx hb (5 * q) pl dX1_placeHolds_9 ?_
  refine kr_ald hx hb hK hP 7 0 rfl rfl ((5 * q) + pl) (by omega) (by decide) dX1_placeHolds_10 ?_
  refine lv_iload_n hx hb dX1_placeHolds_11 rfl (lv_at hl 3 rfl) ?_
  refine kr_vI (n := 2) (As := [.int (A 6 ((5 * q) + pl)), .int ld]) (rest := []) ⟨hx, hb, hml, hown, hts⟩ (c_X1_form l D cy h a th N L A (A 6 ((5 * q) + pl)) ld hw (by first | assumption | exact Or.inr ⟨_, by assumption, rfl⟩ | exact hw.tn (by assumption) (by assumption))) kg_RX1_68 ⟨rfl, rfl⟩ (by decide +kernel) ⟨Nat.le_of_ble_eq_true rfl, Nat.le_of_ble_eq_true rfl⟩ (kr_pv1 hP hK) rfl hl.1 rfl (Nat.le_of_ble_eq_true rfl) dX1_placeHolds_12 ⟨Nat.zero_le _, Nat.zero_le _⟩ (fun r9 e9 => ?_)
  subst e9
  refine lv_topi (fun f ef => ?_)
  have hf : kr_kn N f := ef ▸ kr_fm_kn hw 16 _ (hw.tn hq hp)
  refine lv_istore (lv' := [(4, .int f), (0, .ref h), (1, .int (nI q)), (2, .int (nI pl)), (3, .int ld)]) hx hb dX1_placeHolds_15 hl (by decide) rfl (fun ls hl => ?_)
  refine lv_iload hx hb dX1_placeHolds_17 (lv_at hl 0 rfl) ?_
  refine lv_iconst (v := -1) hx hb dX1_placeHolds_19 (by decide) ?_
  refine lv_icmp_eq (tgt := 39) hx hb dX1_placeHolds_20 (by decide) (fun c20 => ?_) (fun c20 => ?_)
  · refine lv_iconst (v := 0) hx hb dX1_placeHolds_39 (by decide) ?_
    exact kr_eZ hx hb hr hlocks rfl (Or.inl rfl) (if_neg (fun z => z.1 (ef ▸ c20))).symm dX1_placeHolds_40
  · obtain ⟨k, hk, rfl⟩ := kr_kn_of hN hf c20
    refine lv_aload_n hx hb dX1_placeHolds_23 rfl (lv_at hl 1 rfl) ?_
    refine lv_iload_n hx hb dX1_placeHolds_24 rfl (lv_at hl 2 rfl) ?_
    refine lv_iload_n hx hb dX1_placeHolds_25 rfl (lv_at hl 3 rfl) ?_
    refine lv_iload hx hb dX1_placeHolds_26 (lv_at hl 0 rfl) ?_
    refine kr_vI (n := 3) (As := [.int (nI q), .int (nI pl), .int (nI k)]) (rest := []) ⟨hx, hb, hml, hown, hts⟩ (c_X1_strength l D cy h a th N L A q pl k (by omega) (by omega) (by omega)) kg_RX1_71 ⟨rfl, rfl⟩ (by decide +kernel) ⟨Nat.le_of_ble_eq_true rfl, Nat.le_of_ble_eq_true rfl⟩ (kr_pv1 hP hK) rfl hl.1 rfl (Nat.le_of_ble_eq_true rfl) dX1_placeHolds_28 ⟨Nat.zero_le _, Nat.zero_le _⟩ (fun r9 e9 => ?_)
    subst e9
    refine lv_iload_n hx hb dX1_placeHolds_31 rfl (lv_at hl 4 rfl) ?_
    refine lv_icmp_lt (tgt := 39) hx hb dX1_placeHolds_32 (by decide) (fun c32 => ?_) (fun c32 => ?_)
    · refine lv_iconst (v := 0) hx hb dX1_placeHolds_39 (by decide) ?_
      exact kr_eZ hx hb hr hlocks rfl (Or.inl rfl) (if_neg (fun z => kr_ngt c32 (by have := z.2; rw [← ef] at this; exact this))).symm dX1_placeHolds_40
    · refine lv_iconst (v := 1) hx hb dX1_placeHolds_35 (by decide) ?_
      refine lv_goto (tgt := 40) hx hb dX1_placeHolds_36 (by decide) ?_
      exact kr_eZ hx hb hr hlocks rfl (Or.inr rfl) (if_pos ⟨by rw [← ef]; exact kr_kn_ne (by omega), by rw [← ef]; exact kr_nlt c32⟩).symm dX1_placeHolds_40
theorem kg_RX1_75 : GoodIn kr_all (wsV RX1 75 RX1 yX1_placeHolds (Cond.code yX1_placeHolds cX1_placeHolds 5 (some .boolean) :: kr_all)) := kr_gV kq_633 kq_635 kq_28 kq_49 kq_636
set_option maxHeartbeats 4000000 in
set_option maxRecDepth 100000 in
theorem c_X1_giving (l : Launch) (D : va_G) (cy : ClassId) (h : Nat) (a : Nat → Nat) (th : Int32) (N L : Nat) (A : Nat → Nat → Int32) (q : Nat) (ld : Int32) (hw : kr_wf N L A) (hq : q < L) : Met l yX1_giving (Cond.code yX1_giving cX1_giving 4 (some .int) :: kr_all) ({ frames := 3, cells := 0, slots := 0, locals := 69 }) (va_Pc [.ref h, .int (nI q), .int ld] (kr_R D (kr_W1 cy h a th N L A) cy)) (vp_Si (fun r => r = kr_gw A q ld)) 0 0 (fun _ => False) := by
  refine kr_of (by decide) (Nat.le_of_ble_eq_true rfl) ?_
  intro p e s m below meth c ls hx hb hml hr hts hown hlocks hin hv hl
  obtain ⟨hP, hK⟩ := hv
  have hown : s.vm.findClass RX1 = some m.cls := hown
  have hl : lv_has ls 4 [(0, .ref h), (1, .int (nI q)), (2, .int ld)] := hl
  have hL := hw.2.1
  obtain ⟨hrc, er⟩ := hw.rc hq
  refine lv_iconst (v := 0) hx hb dX1_giving_0 (by decide) ?_
  refine lv_istore_n (lv' := [(3, .int 0), (0, .ref h), (1, .int (nI q)), (2, .int ld)]) hx hb dX1_giving_1 rfl hl (by decide) rfl (fun ls hl => ?_)
  refine kr_lp (nL := 4) (fun z : Nat => [(3, .int (nI z)), (0, .ref h), (1, .int (nI q)), (2, .int ld)]) (fun z => z ≤ kr_rc A q ∧ kr_fg A q ld (kr_rc A q - z) z = kr_gw A q ld) (fun z => kr_rc A q - z) ?_ (0) ⟨by omega, rfl⟩ (lv_sub hl [0, 1, 2, 3] rfl)
  clear hl
  intro z ls hI hl ih
  obtain ⟨i, rfl⟩ : ∃ y, y = z := ⟨_, rfl⟩
  have hl : lv_has ls 4 [(3, .int (nI i)), (0, .ref h), (1, .int (nI q)), (2, .int ld)] := hl
  obtain ⟨hi0, he⟩ : i ≤ kr_rc A q ∧ kr_fg A q ld (kr_rc A q - i) i = kr_gw A q ld := hI
  refine lv_iload_n hx hb dX1_giving_2 rfl (lv_at hl 0 rfl) ?_
  refine lv_aload_n hx hb dX1_giving_3 rfl (lv_at hl 1 rfl) ?_
  refine va_get (ci := 1) (v := .ref (a 5)) (C := RX1) (T := TX1) (N := 11) hx hb hts kr_wsX1 hown hK hP 0 rfl rfl 8 (by decide) (hts _ kq_550) (fun _ h9 => h9) rfl dX1_giving_4 ?_
  refine lv_iload_n hx hb dX1_giving_7 rfl (lv_at hl 2 rfl) ?_
  refine kr_ald hx hb hK hP 6 0 rfl rfl q (by omega) (by decide) dX1_giving_8 ?_
  rw [er]
  refine lv_icmp_ge (tgt := 30) hx hb dX1_giving_9 (by decide) (fun c9 => ?_) (fun c9 => ?_)
  · have hi2 : i = kr_rc A q := by have := kr_ge (by omega) (by omega) c9; omega
    refine lv_iconst (v := -1) hx hb dX1_giving_30 (by decide) ?_
    exact kr_eI hx hb hr hlocks rfl (by rw [hi2, Nat.sub_self] at he; exact he) dX1_giving_31
  · have hi : i < kr_rc A q := kr_lt (by omega) (by omega) c9
    refine lv_aload_n hx hb dX1_giving_12 rfl (lv_at hl 1 rfl) ?_
    refine lv_iload_n hx hb dX1_giving_13 rfl (lv_at hl 2 rfl) ?_
    refine lv_iload_n hx hb dX1_giving_14 rfl (lv_at hl 0 rfl) ?_
    refine lv_iload_n hx hb dX1_giving_15 rfl (lv_at hl 3 rfl) ?_
    refine kr_vI (n := 3) (As := [.int (nI q), .int (nI i), .int ld]) (rest := []) ⟨hx, hb, hml, hown, hts⟩ (c_X1_placeHolds l D cy h a th N L A q i ld hw (by omega) (by omega)) kg_RX1_75 ⟨rfl, rfl⟩ (by decide +kernel) ⟨Nat.le_of_ble_eq_true rfl, Nat.le_of_ble_eq_true rfl⟩ (kr_pv1 hP hK) rfl hl.1 rfl (Nat.le_of_ble_eq_true rfl) dX1_giving_16 ⟨Nat.zero_le _, Nat.zero_le _⟩ (fun r9 e9 => ?_)
    subst e9
    refine lv_if_ne (tgt := 24) hx hb dX1_giving_19 (by decide) (fun c19 => ?_) (fun c19 => ?_)
    · refine lv_iinc (v := nI (i + 1)) (lv' := [(3, .int (nI (i + 1))), (0, .ref h), (1, .int (nI q)), (2, .int ld)]) hx hb dX1_giving_24 hl (k := 0) rfl (kr_inc _) (by decide) rfl (fun ls hl => ?_)
      refine lv_goto (tgt := 2) hx hb dX1_giving_27 (by decide) ?_
      exact ih (i + 1) ls ⟨by omega, (kr_fg_s (kr_if1 c19) hi).symm.trans he⟩ (by show kr_rc A q - (i + 1) < kr_rc A q - i; omega) (lv_sub hl [0, 1, 2, 3] rfl)
    · refine lv_iload_n hx hb dX1_giving_22 rfl (lv_at hl 0 rfl) ?_
      exact kr_eI hx hb hr hlocks rfl ((kr_fg_no (kr_if0 c19) hi).symm.trans he) dX1_giving_23
set_option maxHeartbeats 4000000 in
set_option maxRecDepth 100000 in
theorem c_X1_placeUpTo (l : Launch) (D : va_G) (cy : ClassId) (h : Nat) (a : Nat → Nat) (th : Int32) (N L : Nat) (A : Nat → Nat → Int32) (q pl : Nat) (hw : kr_wf N L A) (hq : q < L) (hp : pl < kr_rc A q) : Met l yX1_placeUpTo (Cond.code yX1_placeUpTo cX1_placeUpTo 7 (some .int) :: kr_all) ({ frames := 2, cells := 0, slots := 0, locals := 37 }) (va_Pc [.ref h, .int (nI q), .int (nI pl)] (kr_R D (kr_W1 cy h a th N L A) cy)) (vp_Si (fun r => r = kr_lh A (kr_st A q pl) 16 (A 6 (5 * q + pl)) 0)) 0 0 (fun _ => False) := by
  refine kr_of (by decide) (Nat.le_of_ble_eq_true rfl) ?_
  intro p e s m below meth c ls hx hb hml hr hts hown hlocks hin hv hl
  obtain ⟨hP, hK⟩ := hv
  have hown : s.vm.findClass RX1 = some m.cls := hown
  have hl : lv_has ls 7 [(0, .ref h), (1, .int (nI q)), (2, .int (nI pl))] := hl
  have hN := hw.1
  have hL := hw.2.1
  have hrc := (hw.rc hq).1
  refine lv_iconst (v := 0) hx hb dX1_placeUpTo_0 (by decide) ?_
  refine lv_istore_n (lv' := [(3, .int 0), (0, .ref h), (1, .int (nI q)), (2, .int (nI pl))]) hx hb dX1_placeUpTo_1 rfl hl (by decide) rfl (fun ls hl => ?_)
  refine lv_aload_n hx hb dX1_placeUpTo_2 rfl (lv_at hl 1 rfl) ?_
  refine va_get (ci := 1) (v := .ref (a 6)) (C := RX1) (T := TX1) (N := 11) hx hb hts kr_wsX1 hown hK hP 0 rfl rfl 10 (by decide) (hts _ kq_552) (fun _ h9 => h9) rfl dX1_placeUpTo_3 ?_
  refine lv_iconst (v := 5) hx hb dX1_placeUpTo_6 (by decide) ?_
  refine lv_iload_n hx hb dX1_placeUpTo_7 rfl (lv_at hl 2 rfl) ?_
  refine kr_imulN hx hb 5 q dX1_placeUpTo_8 ?_
  refine lv_iload_n hx hb dX1_placeUpTo_9 rfl (lv_at hl 3 rfl) ?_
  refine kr_iaddN hx hb (5 * q) pl dX1_placeUpTo_10 ?_
  refine kr_ald hx hb hK hP 7 0 rfl rfl ((5 * q) + pl) (by omega) (by decide) dX1_placeUpTo_11 ?_
  refine lv_istore (lv' := [(4, .int (A 6 ((5 * q) + pl))), (3, .int 0), (0, .ref h), (1, .int (nI q)), (2, .int (nI pl))]) hx hb dX1_placeUpTo_12 hl (by decide) rfl (fun ls hl => ?_)
  refine kr_lp (nL := 7) (fun z : Int32 × Int32 => [(4, .int z.1), (3, .int z.2), (0, .ref h), (1, .int (nI q)), (2, .int (nI pl))]) (fun z => kr_kn N z.1 ∧ kr_lh A (kr_st A q pl) 16 z.1 z.2 = kr_lh A (kr_st A q pl) 16 (A 6 (5 * q + pl)) 0) (fun z => kr_mz z.1) ?_ (A 6 (5 * q + pl), 0) ⟨hw.tn hq hp, rfl⟩ (lv_sub hl [0, 1, 2, 3, 4] rfl)
  clear hl
  intro z ls hI hl ih
  obtain ⟨f, g⟩ := z
  have hl : lv_has ls 7 [(4, .int f), (3, .int g), (0, .ref h), (1, .int (nI q)), (2, .int (nI pl))] := hl
  obtain ⟨hf, he⟩ : kr_kn N f ∧ kr_lh A (kr_st A q pl) 16 f g = kr_lh A (kr_st A q pl) 16 (A 6 (5 * q + pl)) 0 := hI
  refine lv_iload hx hb dX1_placeUpTo_14 (lv_at hl 0 rfl) ?_
  refine lv_iconst (v := -1) hx hb dX1_placeUpTo_16 (by decide) ?_
  refine lv_icmp_eq (tgt := 107) hx hb dX1_placeUpTo_17 (by decide) (fun c17 => ?_) (fun c17 => ?_)
  · subst c17
    refine lv_iload_n hx hb dX1_placeUpTo_107 rfl (lv_at hl 1 rfl) ?_
    exact kr_eI hx hb hr hlocks rfl ((kr_lh_no _).symm.trans he) dX1_placeUpTo_108
  · obtain ⟨j, hj, rfl⟩ := kr_kn_of hN hf c17
    rw [kr_lh_16 hw hj] at he
    have een := kr_en_nI (A := A) (j := j) (by omega)
    refine kr_jn (pcJ := 45) (stJ := []) (fun v => v = kr_en A (nI j)) (fun w ew => ?_) (fun J => ?_)
    · rw [← ew] at he
      refine lv_istore (lv' := [(5, .int w), (4, .int (nI j)), (3, .int g), (0, .ref h), (1, .int (nI q)), (2, .int (nI pl))]) hx hb dX1_placeUpTo_45 hl (by decide) rfl (fun ls hl => ?_)
      refine lv_iload hx hb dX1_placeUpTo_47 (lv_at hl 0 rfl) ?_
      refine lv_iload_n hx hb dX1_placeUpTo_49 rfl (lv_at hl 2 rfl) ?_
      refine lv_icmp_gt (tgt := 56) hx hb dX1_placeUpTo_50 (by decide) (fun c50 => ?_) (fun c50 => ?_)
      · rw [if_pos c50] at he
        refine lv_aload_n hx hb dX1_placeUpTo_56 rfl (lv_at hl 3 rfl) ?_
        refine lv_iload_n hx hb dX1_placeUpTo_57 rfl (lv_at hl 4 rfl) ?_
        refine lv_iload_n hx hb dX1_placeUpTo_58 rfl (lv_at hl 5 rfl) ?_
        refine lv_iload hx hb dX1_placeUpTo_59 (lv_at hl 1 rfl) ?_
        refine kr_vI (n := 3) (As := [.int (nI q), .int (nI pl), .int (nI j)]) (rest := []) ⟨hx, hb, hml, hown, hts⟩ (c_X1_strength l D cy h a th N L A q pl j (by omega) (by omega) (by omega)) kg_RX1_71 ⟨rfl, rfl⟩ (by decide +kernel) ⟨Nat.le_of_ble_eq_true rfl, Nat.le_of_ble_eq_true rfl⟩ (kr_pv1 hP hK) rfl hl.1 rfl (Nat.le_of_ble_eq_true rfl) dX1_placeUpTo_61 ⟨Nat.zero_le _, Nat.zero_le _⟩ (fun r9 e9 => ?_)
        subst e9
        refine lv_istore (lv' := [(6, .int (kr_st A q pl (nI j))), (5, .int w), (4, .int (nI j)), (3, .int g), (0, .ref h), (1, .int (nI q)), (2, .int (nI pl))]) hx hb dX1_placeUpTo_64 hl (by decide) rfl (fun ls hl => ?_)
        refine lv_iload hx hb dX1_placeUpTo_66 (lv_at hl 0 rfl) ?_
        refine lv_iload hx hb dX1_placeUpTo_68 (lv_at hl 1 rfl) ?_
        refine lv_icmp_ge (tgt := 80) hx hb dX1_placeUpTo_70 (by decide) (fun c70 => ?_) (fun c70 => ?_)
        · rw [if_neg (kr_ngt2 c70)] at he
          refine lv_iload hx hb dX1_placeUpTo_80 (lv_at hl 1 rfl) ?_
          refine lv_istore_n (lv' := [(3, .int w), (6, .int (kr_st A q pl (nI j))), (5, .int w), (4, .int (nI j)), (0, .ref h), (1, .int (nI q)), (2, .int (nI pl))]) hx hb dX1_placeUpTo_82 rfl hl (by decide) rfl (fun ls hl => ?_)
          refine lv_iload hx hb dX1_placeUpTo_83 (lv_at hl 2 rfl) ?_
          refine lv_sipush (v := 999) hx hb dX1_placeUpTo_85 (by decide) ?_
          refine lv_icmp_ne (tgt := 95) hx hb dX1_placeUpTo_88 (by decide) (fun c88 => ?_) (fun c88 => ?_)
          · refine lv_aload_n hx hb dX1_placeUpTo_95 rfl (lv_at hl 4 rfl) ?_
            refine va_get (ci := 1) (v := .ref (a 4)) (C := RX1) (T := TX1) (N := 11) hx hb hts kr_wsX1 hown hK hP 0 rfl rfl 6 (by decide) (hts _ kq_548) (fun _ h9 => h9) rfl dX1_placeUpTo_96 ?_
            refine lv_iload hx hb dX1_placeUpTo_99 (lv_at hl 3 rfl) ?_
            refine kr_ald hx hb hK hP 5 0 rfl rfl j (by omega) (by decide) dX1_placeUpTo_101 ?_
            refine lv_istore (lv' := [(4, .int (A 4 j)), (3, .int w), (6, .int (kr_st A q pl (nI j))), (5, .int w), (0, .ref h), (1, .int (nI q)), (2, .int (nI pl))]) hx hb dX1_placeUpTo_102 hl (by decide) rfl (fun ls hl => ?_)
            refine lv_goto (tgt := 14) hx hb dX1_placeUpTo_104 (by decide) ?_
            exact ih (A 4 j, w) ls ⟨hw.kn hj, he⟩ (kr_mz_lt hw hj) (lv_sub hl [0, 1, 4, 5, 6] rfl)
          · subst c88
            refine lv_sipush (v := 999) hx hb dX1_placeUpTo_91 (by decide) ?_
            exact kr_eI hx hb hr hlocks rfl ((kr_lh_end hw hj ew.symm).symm.trans he) dX1_placeUpTo_94
        · rw [if_pos (kr_nle2 c70)] at he
          refine lv_iload_n hx hb dX1_placeUpTo_73 rfl (lv_at hl 3 rfl) ?_
          refine lv_iload hx hb dX1_placeUpTo_74 (lv_at hl 0 rfl) ?_
          refine va_mmax hx hb (hml.trans hl.1.symm) hown (hts _ kq_730) (hts _ kq_212) (hts _ kq_56) (hts _ kq_213) (Nat.le_of_ble_eq_true rfl) (Nat.le_of_ble_eq_true rfl) (Nat.zero_le _) (Nat.zero_le _) dX1_placeUpTo_76 ?_
          show W _ _ _ _ _ _ _ _ _ _ _ _ _ _ _ (F0 _ _ _ (.int (kr_mx g (kr_st A q pl (nI j))) :: _))
          exact kr_eI hx hb hr hlocks rfl he dX1_placeUpTo_79
      · rw [if_neg c50] at he
        refine lv_goto (tgt := 95) hx hb dX1_placeUpTo_53 (by decide) ?_
        refine lv_aload_n hx hb dX1_placeUpTo_95 rfl (lv_at hl 3 rfl) ?_
        refine va_get (ci := 1) (v := .ref (a 4)) (C := RX1) (T := TX1) (N := 11) hx hb hts kr_wsX1 hown hK hP 0 rfl rfl 6 (by decide) (hts _ kq_548) (fun _ h9 => h9) rfl dX1_placeUpTo_96 ?_
        refine lv_iload hx hb dX1_placeUpTo_99 (lv_at hl 1 rfl) ?_
        refine kr_ald hx hb hK hP 5 0 rfl rfl j (by omega) (by decide) dX1_placeUpTo_101 ?_
        refine lv_istore (lv' := [(4, .int (A 4 j)), (5, .int w), (3, .int g), (0, .ref h), (1, .int (nI q)), (2, .int (nI pl))]) hx hb dX1_placeUpTo_102 hl (by decide) rfl (fun ls hl => ?_)
        refine lv_goto (tgt := 14) hx hb dX1_placeUpTo_104 (by decide) ?_
        exact ih (A 4 j, g) ls ⟨hw.kn hj, he⟩ (kr_mz_lt hw hj) (lv_sub hl [0, 2, 3, 4, 5] rfl)
    · refine lv_aload_n hx hb dX1_placeUpTo_20 rfl (lv_at hl 2 rfl) ?_
      refine va_get (ci := 1) (v := .ref (a 3)) (C := RX1) (T := TX1) (N := 11) hx hb hts kr_wsX1 hown hK hP 0 rfl rfl 5 (by decide) (hts _ kq_547) (fun _ h9 => h9) rfl dX1_placeUpTo_21 ?_
      refine lv_iload hx hb dX1_placeUpTo_24 (lv_at hl 0 rfl) ?_
      refine kr_ald hx hb hK hP 4 0 rfl rfl j (by omega) (by decide) dX1_placeUpTo_26 ?_
      refine lv_if_ne (tgt := 36) hx hb dX1_placeUpTo_27 (by decide) (fun c27 => ?_) (fun c27 => ?_)
      · refine lv_aload_n hx hb dX1_placeUpTo_36 rfl (lv_at hl 2 rfl) ?_
        refine va_get (ci := 1) (v := .ref (a 3)) (C := RX1) (T := TX1) (N := 11) hx hb hts kr_wsX1 hown hK hP 0 rfl rfl 5 (by decide) (hts _ kq_547) (fun _ h9 => h9) rfl dX1_placeUpTo_37 ?_
        refine lv_iload hx hb dX1_placeUpTo_40 (lv_at hl 0 rfl) ?_
        refine kr_ald hx hb hK hP 4 0 rfl rfl j (by omega) (by decide) dX1_placeUpTo_42 ?_
        refine lv_iconst (v := 1) hx hb dX1_placeUpTo_43 (by decide) ?_
        refine lv_isub hx hb dX1_placeUpTo_44 ?_
        exact J _ (by rw [een, if_neg c27])
      · refine lv_sipush (v := 999) hx hb dX1_placeUpTo_30 (by decide) ?_
        refine lv_goto (tgt := 45) hx hb dX1_placeUpTo_33 (by decide) ?_
        exact J _ (by rw [een, if_pos c27])
theorem kg_RX1_78 : GoodIn kr_all (wsV RX1 78 RX1 yX1_placeUpTo (Cond.code yX1_placeUpTo cX1_placeUpTo 7 (some .int) :: kr_all)) := kr_gV kq_775 kq_777 kq_44 kq_49 kq_778
set_option maxHeartbeats 4000000 in
set_option maxRecDepth 100000 in
theorem c_X1_upTo (l : Launch) (D : va_G) (cy : ClassId) (h : Nat) (a : Nat → Nat) (th : Int32) (N L : Nat) (A : Nat → Nat → Int32) (q : Nat) (hw : kr_wf N L A) (hq : q < L) : Met l yX1_upTo (Cond.code yX1_upTo cX1_upTo 4 (some .int) :: kr_all) ({ frames := 3, cells := 0, slots := 0, locals := 63 }) (va_Pc [.ref h, .int (nI q)] (kr_R D (kr_W1 cy h a th N L A) cy)) (vp_Si (fun r => r = kr_hu A q)) 0 0 (fun _ => False) := by
  refine kr_of (by decide) (Nat.le_of_ble_eq_true rfl) ?_
  intro p e s m below meth c ls hx hb hml hr hts hown hlocks hin hv hl
  obtain ⟨hP, hK⟩ := hv
  have hown : s.vm.findClass RX1 = some m.cls := hown
  have hl : lv_has ls 4 [(0, .ref h), (1, .int (nI q))] := hl
  have hL := hw.2.1
  obtain ⟨hrc, er⟩ := hw.rc hq
  refine kr_jn (pcJ := 16) (stJ := []) (fun v => v = if A 5 q = 0 then 0 else 999) (fun w ew => ?_) (fun J => ?_)
  · refine lv_istore_n (lv' := [(2, .int w), (0, .ref h), (1, .int (nI q))]) hx hb dX1_upTo_16 rfl hl (by decide) rfl (fun ls hl => ?_)
    refine lv_iconst (v := 0) hx hb dX1_upTo_17 (by decide) ?_
    refine lv_istore_n (lv' := [(3, .int 0), (2, .int w), (0, .ref h), (1, .int (nI q))]) hx hb dX1_upTo_18 rfl hl (by decide) rfl (fun ls hl => ?_)
    refine kr_lp (nL := 4) (fun z : Nat × Int32 => [(3, .int (nI z.1)), (2, .int z.2), (0, .ref h), (1, .int (nI q))]) (fun z => z.1 ≤ kr_rc A q ∧ kr_uw A q (kr_rc A q - z.1) z.1 z.2 = kr_hu A q) (fun z => kr_rc A q - z.1) ?_ (0, w) ⟨by omega, by rw [ew]; rfl⟩ (lv_sub hl [0, 1, 2, 3] rfl)
    clear hl
    intro z ls hI hl ih
    obtain ⟨i, g⟩ := z
    have hl : lv_has ls 4 [(3, .int (nI i)), (2, .int g), (0, .ref h), (1, .int (nI q))] := hl
    obtain ⟨hi0, he⟩ : i ≤ kr_rc A q ∧ kr_uw A q (kr_rc A q - i) i g = kr_hu A q := hI
    refine lv_iload_n hx hb dX1_upTo_19 rfl (lv_at hl 0 rfl) ?_
    refine lv_aload_n hx hb dX1_upTo_20 rfl (lv_at hl 2 rfl) ?_
    refine va_get (ci := 1) (v := .ref (a 5)) (C := RX1) (T := TX1) (N := 11) hx hb hts kr_wsX1 hown hK hP 0 rfl rfl 8 (by decide) (hts _ kq_550) (fun _ h9 => h9) rfl dX1_upTo_21 ?_
    refine lv_iload_n hx hb dX1_upTo_24 rfl (lv_at hl 3 rfl) ?_
    refine kr_ald hx hb hK hP 6 0 rfl rfl q (by omega) (by decide) dX1_upTo_25 ?_
    rw [er]
    refine lv_icmp_ge (tgt := 46) hx hb dX1_upTo_26 (by decide) (fun c26 => ?_) (fun c26 => ?_)
    · have hi2 : i = kr_rc A q := by have := kr_ge (by omega) (by omega) c26; omega
      refine lv_iload_n hx hb dX1_upTo_46 rfl (lv_at hl 1 rfl) ?_
      exact kr_eI hx hb hr hlocks rfl (by rw [hi2, Nat.sub_self] at he; exact he) dX1_upTo_47
    · have hi : i < kr_rc A q := kr_lt (by omega) (by omega) c26
      rw [kr_uw_s hi] at he
      refine lv_iload_n hx hb dX1_upTo_29 rfl (lv_at hl 1 rfl) ?_
      refine lv_aload_n hx hb dX1_upTo_30 rfl (lv_at hl 2 rfl) ?_
      refine lv_iload_n hx hb dX1_upTo_31 rfl (lv_at hl 3 rfl) ?_
      refine lv_iload_n hx hb dX1_upTo_32 rfl (lv_at hl 0 rfl) ?_
      refine kr_vI (n := 2) (As := [.int (nI q), .int (nI i)]) (rest := [.int g]) ⟨hx, hb, hml, hown, hts⟩ (c_X1_placeUpTo l D cy h a th N L A q i hw (by omega) (by omega)) kg_RX1_78 ⟨rfl, rfl⟩ (by decide +kernel) ⟨Nat.le_of_ble_eq_true rfl, Nat.le_of_ble_eq_true rfl⟩ (kr_pv1 hP hK) rfl hl.1 rfl (Nat.le_of_ble_eq_true rfl) dX1_upTo_33 ⟨Nat.zero_le _, Nat.zero_le _⟩ (fun r9 e9 => ?_)
      subst e9
      refine va_mmin hx hb (hml.trans hl.1.symm) hown (hts _ kq_649) (hts _ kq_209) (hts _ kq_56) (hts _ kq_210) (Nat.le_of_ble_eq_true rfl) (Nat.le_of_ble_eq_true rfl) (Nat.zero_le _) (Nat.zero_le _) dX1_upTo_36 ?_
      show W _ _ _ _ _ _ _ _ _ _ _ _ _ _ _ (F0 _ _ _ (.int (kr_mn g (kr_lh A (kr_st A q i) 16 (A 6 (5 * q + i)) 0)) :: _))
      refine lv_istore_n (lv' := [(2, .int (kr_mn g (kr_lh A (kr_st A q i) 16 (A 6 (5 * q + i)) 0))), (3, .int (nI i)), (0, .ref h), (1, .int (nI q))]) hx hb dX1_upTo_39 rfl hl (by decide) rfl (fun ls hl => ?_)
      refine lv_iinc (v := nI (i + 1)) (lv' := [(3, .int (nI (i + 1))), (2, .int (kr_mn g (kr_lh A (kr_st A q i) 16 (A 6 (5 * q + i)) 0))), (0, .ref h), (1, .int (nI q))]) hx hb dX1_upTo_40 hl (k := 1) rfl (kr_inc _) (by decide) rfl (fun ls hl => ?_)
      refine lv_goto (tgt := 19) hx hb dX1_upTo_43 (by decide) ?_
      exact ih (i + 1, kr_mn g (kr_lh A (kr_st A q i) 16 (A 6 (5 * q + i)) 0)) ls ⟨by omega, he⟩ (by show kr_rc A q - (i + 1) < kr_rc A q - i; omega) (lv_sub hl [0, 1, 2, 3] rfl)
  · refine lv_aload_n hx hb dX1_upTo_0 rfl (lv_at hl 0 rfl) ?_
    refine va_get (ci := 1) (v := .ref (a 5)) (C := RX1) (T := TX1) (N := 11) hx hb hts kr_wsX1 hown hK hP 0 rfl rfl 8 (by decide) (hts _ kq_550) (fun _ h9 => h9) rfl dX1_upTo_1 ?_
    refine lv_iload_n hx hb dX1_upTo_4 rfl (lv_at hl 1 rfl) ?_
    refine kr_ald hx hb hK hP 6 0 rfl rfl q (by omega) (by decide) dX1_upTo_5 ?_
    refine lv_if_ne (tgt := 13) hx hb dX1_upTo_6 (by decide) (fun c6 => ?_) (fun c6 => ?_)
    · refine lv_sipush (v := 999) hx hb dX1_upTo_13 (by decide) ?_
      exact J _ (if_neg c6).symm
    · refine lv_iconst (v := 0) hx hb dX1_upTo_9 (by decide) ?_
      refine lv_goto (tgt := 16) hx hb dX1_upTo_10 (by decide) ?_
      exact J _ (if_pos c6).symm
theorem kg_RX1_81 : GoodIn kr_all (wsV RX1 81 RX1 yX1_now (Cond.code yX1_now cX1_now 3 (some .int) :: kr_all)) := kr_gV kq_747 kq_749 kq_40 kq_49 kq_750
set_option maxHeartbeats 4000000 in
set_option maxRecDepth 100000 in
theorem c_X1_weakest (l : Launch) (D : va_G) (cy : ClassId) (h : Nat) (a : Nat → Nat) (th : Int32) (N L : Nat) (A : Nat → Nat → Int32) (q : Nat) (hw : kr_wf N L A) (hq : q < L) : Met l yX1_weakest (Cond.code yX1_weakest cX1_weakest 4 (some .int) :: kr_all) ({ frames := 3, cells := 0, slots := 0, locals := 59 }) (va_Pc [.ref h, .int (nI q)] (kr_R D (kr_W1 cy h a th N L A) cy)) (vp_Si (fun r => r = kr_wk A q (kr_rc A q) 0 (-1))) 0 0 (fun _ => False) := by
  refine kr_of (by decide) (Nat.le_of_ble_eq_true rfl) ?_
  intro p e s m below meth c ls hx hb hml hr hts hown hlocks hin hv hl
  obtain ⟨hP, hK⟩ := hv
  have hown : s.vm.findClass RX1 = some m.cls := hown
  have hl : lv_has ls 4 [(0, .ref h), (1, .int (nI q))] := hl
  have hL := hw.2.1
  obtain ⟨hrc, er⟩ := hw.rc hq
  refine lv_iconst (v := -1) hx hb dX1_weakest_0 (by decide) ?_
  refine lv_istore_n (lv' := [(2, .int (-1)), (0, .ref h), (1, .int (nI q))]) hx hb dX1_weakest_1 rfl hl (by decide) rfl (fun ls hl => ?_)
  refine lv_iconst (v := 0) hx hb dX1_weakest_2 (by decide) ?_
  refine lv_istore_n (lv' := [(3, .int 0), (2, .int (-1)), (0, .ref h), (1, .int (nI q))]) hx hb dX1_weakest_3 rfl hl (by decide) rfl (fun ls hl => ?_)
  refine kr_lp (nL := 4) (fun z : Nat × Int32 => [(3, .int (nI z.1)), (2, .int z.2), (0, .ref h), (1, .int (nI q))]) (fun z => z.1 ≤ kr_rc A q ∧ (z.2 = -1 ∨ ∃ j, j < kr_rc A q ∧ z.2 = nI j) ∧ kr_wk A q (kr_rc A q - z.1) z.1 z.2 = kr_wk A q (kr_rc A q) 0 (-1)) (fun z => kr_rc A q - z.1) ?_ (0, -1) ⟨by omega, Or.inl rfl, rfl⟩ (lv_sub hl [0, 1, 2, 3] rfl)
  clear hl
  intro z ls hI hl ih
  obtain ⟨i, b⟩ := z
  have hl : lv_has ls 4 [(3, .int (nI i)), (2, .int b), (0, .ref h), (1, .int (nI q))] := hl
  obtain ⟨hi0, hb2, he⟩ : i ≤ kr_rc A q ∧ (b = -1 ∨ ∃ j, j < kr_rc A q ∧ b = nI j) ∧ kr_wk A q (kr_rc A q - i) i b = kr_wk A q (kr_rc A q) 0 (-1) := hI
  refine lv_iload_n hx hb dX1_weakest_4 rfl (lv_at hl 0 rfl) ?_
  refine lv_aload_n hx hb dX1_weakest_5 rfl (lv_at hl 2 rfl) ?_
  refine va_get (ci := 1) (v := .ref (a 5)) (C := RX1) (T := TX1) (N := 11) hx hb hts kr_wsX1 hown hK hP 0 rfl rfl 8 (by decide) (hts _ kq_550) (fun _ h9 => h9) rfl dX1_weakest_6 ?_
  refine lv_iload_n hx hb dX1_weakest_9 rfl (lv_at hl 3 rfl) ?_
  refine kr_ald hx hb hK hP 6 0 rfl rfl q (by omega) (by decide) dX1_weakest_10 ?_
  rw [er]
  refine lv_icmp_ge (tgt := 42) hx hb dX1_weakest_11 (by decide) (fun c11 => ?_) (fun c11 => ?_)
  · have hi2 : i = kr_rc A q := by have := kr_ge (by omega) (by omega) c11; omega
    refine lv_iload_n hx hb dX1_weakest_42 rfl (lv_at hl 1 rfl) ?_
    exact kr_eI hx hb hr hlocks rfl (by rw [hi2, Nat.sub_self] at he; exact he) dX1_weakest_43
  · have hi : i < kr_rc A q := kr_lt (by omega) (by omega) c11
    rw [kr_wk_s hi] at he
    refine lv_iload_n hx hb dX1_weakest_14 rfl (lv_at hl 1 rfl) ?_
    refine lv_iconst (v := -1) hx hb dX1_weakest_15 (by decide) ?_
    refine lv_icmp_eq (tgt := 34) hx hb dX1_weakest_16 (by decide) (fun c16 => ?_) (fun c16 => ?_)
    · rw [if_pos (Or.inl c16)] at he
      refine lv_iload_n hx hb dX1_weakest_34 rfl (lv_at hl 0 rfl) ?_
      refine lv_istore_n (lv' := [(2, .int (nI i)), (3, .int (nI i)), (0, .ref h), (1, .int (nI q))]) hx hb dX1_weakest_35 rfl hl (by decide) rfl (fun ls hl => ?_)
      refine lv_iinc (v := nI (i + 1)) (lv' := [(3, .int (nI (i + 1))), (2, .int (nI i)), (0, .ref h), (1, .int (nI q))]) hx hb dX1_weakest_36 hl (k := 1) rfl (kr_inc _) (by decide) rfl (fun ls hl => ?_)
      refine lv_goto (tgt := 4) hx hb dX1_weakest_39 (by decide) ?_
      exact ih (i + 1, nI i) ls ⟨by omega, Or.inr ⟨i, by omega, rfl⟩, he⟩ (by show kr_rc A q - (i + 1) < kr_rc A q - i; omega) (lv_sub hl [0, 1, 2, 3] rfl)
    · obtain ⟨j, hj, rfl⟩ := hb2.resolve_left c16
      rw [kr_ix_nI (by omega)] at he
      refine lv_aload_n hx hb dX1_weakest_19 rfl (lv_at hl 2 rfl) ?_
      refine lv_iload_n hx hb dX1_weakest_20 rfl (lv_at hl 3 rfl) ?_
      refine lv_iload_n hx hb dX1_weakest_21 rfl (lv_at hl 0 rfl) ?_
      refine kr_vI (n := 2) (As := [.int (nI q), .int (nI i)]) (rest := []) ⟨hx, hb, hml, hown, hts⟩ (c_X1_now l D cy h a th N L A q i hw (by omega) (by omega)) kg_RX1_81 ⟨rfl, rfl⟩ (by decide +kernel) ⟨Nat.le_of_ble_eq_true rfl, Nat.le_of_ble_eq_true rfl⟩ (kr_pv1 hP hK) rfl hl.1 rfl (Nat.le_of_ble_eq_true rfl) dX1_weakest_22 ⟨Nat.zero_le _, Nat.zero_le _⟩ (fun r9 e9 => ?_)
      subst e9
      refine lv_aload_n hx hb dX1_weakest_25 rfl (lv_at hl 2 rfl) ?_
      refine lv_iload_n hx hb dX1_weakest_26 rfl (lv_at hl 3 rfl) ?_
      refine lv_iload_n hx hb dX1_weakest_27 rfl (lv_at hl 1 rfl) ?_
      refine kr_vI (n := 2) (As := [.int (nI q), .int (nI j)]) (rest := [.int (kr_nw A q i)]) ⟨hx, hb, hml, hown, hts⟩ (c_X1_now l D cy h a th N L A q j hw (by omega) (by omega)) kg_RX1_81 ⟨rfl, rfl⟩ (by decide +kernel) ⟨Nat.le_of_ble_eq_true rfl, Nat.le_of_ble_eq_true rfl⟩ (kr_pv1 hP hK) rfl hl.1 rfl (Nat.le_of_ble_eq_true rfl) dX1_weakest_28 ⟨Nat.zero_le _, Nat.zero_le _⟩ (fun r9 e9 => ?_)
      subst e9
      refine lv_icmp_ge (tgt := 36) hx hb dX1_weakest_31 (by decide) (fun c31 => ?_) (fun c31 => ?_)
      · rw [if_neg (fun z => z.elim (kr_kn_ne (by omega)) (kr_ngt2 c31))] at he
        refine lv_iinc (v := nI (i + 1)) (lv' := [(3, .int (nI (i + 1))), (2, .int (nI j)), (0, .ref h), (1, .int (nI q))]) hx hb dX1_weakest_36 hl (k := 0) rfl (kr_inc _) (by decide) rfl (fun ls hl => ?_)
        refine lv_goto (tgt := 4) hx hb dX1_weakest_39 (by decide) ?_
        exact ih (i + 1, nI j) ls ⟨by omega, Or.inr ⟨j, hj, rfl⟩, he⟩ (by show kr_rc A q - (i + 1) < kr_rc A q - i; omega) (lv_sub hl [0, 1, 2, 3] rfl)
      · rw [if_pos (Or.inr (kr_nle2 c31))] at he
        refine lv_iload_n hx hb dX1_weakest_34 rfl (lv_at hl 0 rfl) ?_
        refine lv_istore_n (lv' := [(2, .int (nI i)), (3, .int (nI i)), (0, .ref h), (1, .int (nI q))]) hx hb dX1_weakest_35 rfl hl (by decide) rfl (fun ls hl => ?_)
        refine lv_iinc (v := nI (i + 1)) (lv' := [(3, .int (nI (i + 1))), (2, .int (nI i)), (0, .ref h), (1, .int (nI q))]) hx hb dX1_weakest_36 hl (k := 1) rfl (kr_inc _) (by decide) rfl (fun ls hl => ?_)
        refine lv_goto (tgt := 4) hx hb dX1_weakest_39 (by decide) ?_
        exact ih (i + 1, nI i) ls ⟨by omega, Or.inr ⟨i, by omega, rfl⟩, he⟩ (by show kr_rc A q - (i + 1) < kr_rc A q - i; omega) (lv_sub hl [0, 1, 2, 3] rfl)
theorem kg_RX1_84 : GoodIn kr_all (wsV RX1 84 RX1 yX1_upTo (Cond.code yX1_upTo cX1_upTo 4 (some .int) :: kr_all)) := kr_gV kq_771 kq_773 kq_43 kq_49 kq_774
set_option maxHeartbeats 4000000 in
set_option maxRecDepth 100000 in
theorem c_X1_strongest (l : Launch) (D : va_G) (cy : ClassId) (h : Nat) (a : Nat → Nat) (th : Int32) (N L : Nat) (A : Nat → Nat → Int32) (hw : kr_wf N L A) : Met l yX1_strongest (Cond.code yX1_strongest cX1_strongest 3 (some .int) :: kr_all) ({ frames := 4, cells := 0, slots := 0, locals := 86 }) (va_Pc [.ref h] (kr_R D (kr_W1 cy h a th N L A) cy)) (vp_Si (fun r => r = kr_sg A L 0 (-1))) 0 0 (fun _ => False) := by
  refine kr_of (by decide) (Nat.le_of_ble_eq_true rfl) ?_
  intro p e s m below meth c ls hx hb hml hr hts hown hlocks hin hv hl
  obtain ⟨hP, hK⟩ := hv
  have hown : s.vm.findClass RX1 = some m.cls := hown
  have hl : lv_has ls 3 [(0, .ref h)] := hl
  have hL := hw.2.1
  refine lv_iconst (v := -1) hx hb dX1_strongest_0 (by decide) ?_
  refine lv_istore_n (lv' := [(1, .int (-1)), (0, .ref h)]) hx hb dX1_strongest_1 rfl hl (by decide) rfl (fun ls hl => ?_)
  refine lv_iconst (v := 0) hx hb dX1_strongest_2 (by decide) ?_
  refine lv_istore_n (lv' := [(2, .int 0), (1, .int (-1)), (0, .ref h)]) hx hb dX1_strongest_3 rfl hl (by decide) rfl (fun ls hl => ?_)
  refine kr_lp (nL := 3) (fun z : Nat × Int32 => [(2, .int (nI z.1)), (1, .int z.2), (0, .ref h)]) (fun z => z.1 ≤ L ∧ (z.2 = -1 ∨ ∃ j, j < L ∧ z.2 = nI j) ∧ kr_sg A (L - z.1) z.1 z.2 = kr_sg A L 0 (-1)) (fun z => L - z.1) ?_ (0, -1) ⟨by omega, Or.inl rfl, rfl⟩ (lv_sub hl [0, 1, 2] rfl)
  clear hl
  intro z ls hI hl ih
  obtain ⟨i, b⟩ := z
  have hl : lv_has ls 3 [(2, .int (nI i)), (1, .int b), (0, .ref h)] := hl
  obtain ⟨hi0, hb2, he⟩ : i ≤ L ∧ (b = -1 ∨ ∃ j, j < L ∧ b = nI j) ∧ kr_sg A (L - i) i b = kr_sg A L 0 (-1) := hI
  refine lv_iload_n hx hb dX1_strongest_4 rfl (lv_at hl 0 rfl) ?_
  refine lv_aload_n hx hb dX1_strongest_5 rfl (lv_at hl 2 rfl) ?_
  refine va_get (ci := 1) (v := .int (nI L)) (C := RX1) (T := TX1) (N := 11) hx hb hts kr_wsX1 hown hK hP 0 rfl rfl 7 (by decide) (hts _ kq_549) (fun _ h9 => h9) rfl dX1_strongest_6 ?_
  refine lv_icmp_ge (tgt := 38) hx hb dX1_strongest_9 (by decide) (fun c9 => ?_) (fun c9 => ?_)
  · have hi2 : i = L := by have := kr_ge (by omega) (by omega) c9; omega
    refine lv_iload_n hx hb dX1_strongest_38 rfl (lv_at hl 1 rfl) ?_
    exact kr_eI hx hb hr hlocks rfl (by rw [hi2, Nat.sub_self] at he; exact he) dX1_strongest_39
  · have hi : i < L := kr_lt (by omega) (by omega) c9
    rw [kr_sg_s hi] at he
    refine lv_iload_n hx hb dX1_strongest_12 rfl (lv_at hl 1 rfl) ?_
    refine lv_iconst (v := -1) hx hb dX1_strongest_13 (by decide) ?_
    refine lv_icmp_eq (tgt := 30) hx hb dX1_strongest_14 (by decide) (fun c14 => ?_) (fun c14 => ?_)
    · rw [if_pos (Or.inl c14)] at he
      refine lv_iload_n hx hb dX1_strongest_30 rfl (lv_at hl 0 rfl) ?_
      refine lv_istore_n (lv' := [(1, .int (nI i)), (2, .int (nI i)), (0, .ref h)]) hx hb dX1_strongest_31 rfl hl (by decide) rfl (fun ls hl => ?_)
      refine lv_iinc (v := nI (i + 1)) (lv' := [(2, .int (nI (i + 1))), (1, .int (nI i)), (0, .ref h)]) hx hb dX1_strongest_32 hl (k := 1) rfl (kr_inc _) (by decide) rfl (fun ls hl => ?_)
      refine lv_goto (tgt := 4) hx hb dX1_strongest_35 (by decide) ?_
      exact ih (i + 1, nI i) ls ⟨by omega, Or.inr ⟨i, by omega, rfl⟩, he⟩ (by show L - (i + 1) < L - i; omega) (lv_sub hl [0, 1, 2] rfl)
    · obtain ⟨j, hj, rfl⟩ := hb2.resolve_left c14
      rw [kr_ix_nI (by omega)] at he
      refine lv_aload_n hx hb dX1_strongest_17 rfl (lv_at hl 2 rfl) ?_
      refine lv_iload_n hx hb dX1_strongest_18 rfl (lv_at hl 0 rfl) ?_
      refine kr_vI (n := 1) (As := [.int (nI i)]) (rest := []) ⟨hx, hb, hml, hown, hts⟩ (c_X1_upTo l D cy h a th N L A i hw (by omega)) kg_RX1_84 ⟨rfl, rfl⟩ (by decide +kernel) ⟨Nat.le_of_ble_eq_true rfl, Nat.le_of_ble_eq_true rfl⟩ (kr_pv1 hP hK) rfl hl.1 rfl (Nat.le_of_ble_eq_true rfl) dX1_strongest_19 ⟨Nat.zero_le _, Nat.zero_le _⟩ (fun r9 e9 => ?_)
      subst e9
      refine lv_aload_n hx hb dX1_strongest_22 rfl (lv_at hl 2 rfl) ?_
      refine lv_iload_n hx hb dX1_strongest_23 rfl (lv_at hl 1 rfl) ?_
      refine kr_vI (n := 1) (As := [.int (nI j)]) (rest := [.int (kr_hu A i)]) ⟨hx, hb, hml, hown, hts⟩ (c_X1_upTo l D cy h a th N L A j hw (by omega)) kg_RX1_84 ⟨rfl, rfl⟩ (by decide +kernel) ⟨Nat.le_of_ble_eq_true rfl, Nat.le_of_ble_eq_true rfl⟩ (kr_pv1 hP hK) rfl hl.1 rfl (Nat.le_of_ble_eq_true rfl) dX1_strongest_24 ⟨Nat.zero_le _, Nat.zero_le _⟩ (fun r9 e9 => ?_)
      subst e9
      refine lv_icmp_le (tgt := 32) hx hb dX1_strongest_27 (by decide) (fun c27 => ?_) (fun c27 => ?_)
      · rw [if_neg (fun z => z.elim (kr_kn_ne (by omega)) (kr_ngt2 c27))] at he
        refine lv_iinc (v := nI (i + 1)) (lv' := [(2, .int (nI (i + 1))), (1, .int (nI j)), (0, .ref h)]) hx hb dX1_strongest_32 hl (k := 0) rfl (kr_inc _) (by decide) rfl (fun ls hl => ?_)
        refine lv_goto (tgt := 4) hx hb dX1_strongest_35 (by decide) ?_
        exact ih (i + 1, nI j) ls ⟨by omega, Or.inr ⟨j, hj, rfl⟩, he⟩ (by show L - (i + 1) < L - i; omega) (lv_sub hl [0, 1, 2] rfl)
      · rw [if_pos (Or.inr (kr_nle2 c27))] at he
        refine lv_iload_n hx hb dX1_strongest_30 rfl (lv_at hl 0 rfl) ?_
        refine lv_istore_n (lv' := [(1, .int (nI i)), (2, .int (nI i)), (0, .ref h)]) hx hb dX1_strongest_31 rfl hl (by decide) rfl (fun ls hl => ?_)
        refine lv_iinc (v := nI (i + 1)) (lv' := [(2, .int (nI (i + 1))), (1, .int (nI i)), (0, .ref h)]) hx hb dX1_strongest_32 hl (k := 1) rfl (kr_inc _) (by decide) rfl (fun ls hl => ?_)
        refine lv_goto (tgt := 4) hx hb dX1_strongest_35 (by decide) ?_
        exact ih (i + 1, nI i) ls ⟨by omega, Or.inr ⟨i, by omega, rfl⟩, he⟩ (by show L - (i + 1) < L - i; omega) (lv_sub hl [0, 1, 2] rfl)
set_option maxHeartbeats 4000000 in
set_option maxRecDepth 100000 in
theorem c_X1_many (l : Launch) (D : va_G) (cy : ClassId) (h : Nat) (a : Nat → Nat) (th : Int32) (N L : Nat) (A : Nat → Nat → Int32) (kd : Int32) (hN : N ≤ 16) : Met l yX1_many (Cond.code yX1_many cX1_many 4 (some .int) :: kr_all) ({ frames := 0, cells := 0, slots := 0, locals := 0 }) (va_Pc [.ref h, .int kd] (kr_R D (kr_W1 cy h a th N L A) cy)) (vp_Si (fun r => r = nI (kr_cn A kd N))) 0 0 (fun _ => False) := by
  refine kr_of (by decide) (Nat.le_of_ble_eq_true rfl) ?_
  intro p e s m below meth c ls hx hb hml hr hts hown hlocks hin hv hl
  obtain ⟨hP, hK⟩ := hv
  have hown : s.vm.findClass RX1 = some m.cls := hown
  have hl : lv_has ls 4 [(0, .ref h), (1, .int kd)] := hl
  refine lv_iconst (v := 0) hx hb dX1_many_0 (by decide) ?_
  refine lv_istore_n (lv' := [(2, .int 0), (0, .ref h), (1, .int kd)]) hx hb dX1_many_1 rfl hl (by decide) rfl (fun ls hl => ?_)
  refine lv_iconst (v := 0) hx hb dX1_many_2 (by decide) ?_
  refine lv_istore_n (lv' := [(3, .int 0), (2, .int 0), (0, .ref h), (1, .int kd)]) hx hb dX1_many_3 rfl hl (by decide) rfl (fun ls hl => ?_)
  refine kr_lp (nL := 4) (fun z : Nat × Nat => [(3, .int (nI z.1)), (2, .int (nI z.2)), (0, .ref h), (1, .int kd)]) (fun z => z.1 ≤ N ∧ z.2 = kr_cn A kd z.1) (fun z => N - z.1) ?_ (0, 0) ⟨by omega, rfl⟩ (lv_sub hl [0, 1, 2, 3] rfl)
  clear hl
  intro z ls hI hl ih
  obtain ⟨i, g⟩ := z
  have hl : lv_has ls 4 [(3, .int (nI i)), (2, .int (nI g)), (0, .ref h), (1, .int kd)] := hl
  obtain ⟨hi0, hg⟩ : i ≤ N ∧ g = kr_cn A kd i := hI
  refine lv_iload_n hx hb dX1_many_4 rfl (lv_at hl 0 rfl) ?_
  refine lv_aload_n hx hb dX1_many_5 rfl (lv_at hl 2 rfl) ?_
  refine va_get (ci := 1) (v := .int (nI N)) (C := RX1) (T := TX1) (N := 11) hx hb hts kr_wsX1 hown hK hP 0 rfl rfl 1 (by decide) (hts _ kq_543) (fun _ h9 => h9) rfl dX1_many_6 ?_
  refine lv_icmp_ge (tgt := 36) hx hb dX1_many_9 (by decide) (fun c9 => ?_) (fun c9 => ?_)
  · have hi2 : i = N := by have := kr_ge (by omega) (by omega) c9; omega
    refine lv_iload_n hx hb dX1_many_36 rfl (lv_at hl 1 rfl) ?_
    exact kr_eI hx hb hr hlocks rfl (by rw [hg, hi2]) dX1_many_37
  · have hi : i < N := kr_lt (by omega) (by omega) c9
    refine lv_iload_n hx hb dX1_many_12 rfl (lv_at hl 1 rfl) ?_
    refine lv_aload_n hx hb dX1_many_13 rfl (lv_at hl 2 rfl) ?_
    refine va_get (ci := 1) (v := .ref (a 0)) (C := RX1) (T := TX1) (N := 11) hx hb hts kr_wsX1 hown hK hP 0 rfl rfl 2 (by decide) (hts _ kq_544) (fun _ h9 => h9) rfl dX1_many_14 ?_
    refine lv_iload_n hx hb dX1_many_17 rfl (lv_at hl 0 rfl) ?_
    refine kr_ald hx hb hK hP 1 0 rfl rfl i (by omega) (by decide) dX1_many_18 ?_
    refine lv_iload_n hx hb dX1_many_19 rfl (lv_at hl 3 rfl) ?_
    refine lv_icmp_ne (tgt := 27) hx hb dX1_many_20 (by decide) (fun c20 => ?_) (fun c20 => ?_)
    · refine lv_iconst (v := 0) hx hb dX1_many_27 (by decide) ?_
      refine kr_iaddN hx hb g 0 dX1_many_28 ?_
      refine lv_istore_n (lv' := [(2, .int (nI (g + 0))), (3, .int (nI i)), (0, .ref h), (1, .int kd)]) hx hb dX1_many_29 rfl hl (by decide) rfl (fun ls hl => ?_)
      refine lv_iinc (v := nI (i + 1)) (lv' := [(3, .int (nI (i + 1))), (2, .int (nI (g + 0))), (0, .ref h), (1, .int kd)]) hx hb dX1_many_30 hl (k := 1) rfl (kr_inc _) (by decide) rfl (fun ls hl => ?_)
      refine lv_goto (tgt := 4) hx hb dX1_many_33 (by decide) ?_
      exact ih (i + 1, g + 0) ls ⟨by omega, by rw [hg, kr_cn_s, if_neg c20]⟩ (by show N - (i + 1) < N - i; omega) (lv_sub hl [0, 1, 2, 3] rfl)
    · refine lv_iconst (v := 1) hx hb dX1_many_23 (by decide) ?_
      refine lv_goto (tgt := 28) hx hb dX1_many_24 (by decide) ?_
      refine kr_iaddN hx hb g 1 dX1_many_28 ?_
      refine lv_istore_n (lv' := [(2, .int (nI (g + 1))), (3, .int (nI i)), (0, .ref h), (1, .int kd)]) hx hb dX1_many_29 rfl hl (by decide) rfl (fun ls hl => ?_)
      refine lv_iinc (v := nI (i + 1)) (lv' := [(3, .int (nI (i + 1))), (2, .int (nI (g + 1))), (0, .ref h), (1, .int kd)]) hx hb dX1_many_30 hl (k := 1) rfl (kr_inc _) (by decide) rfl (fun ls hl => ?_)
      refine lv_goto (tgt := 4) hx hb dX1_many_33 (by decide) ?_
      exact ih (i + 1, g + 1) ls ⟨by omega, by rw [hg, kr_cn_s, if_pos c20]⟩ (by show N - (i + 1) < N - i; omega) (lv_sub hl [0, 1, 2, 3] rfl)
