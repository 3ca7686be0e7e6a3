set_option maxHeartbeats 4000000 in
set_option maxRecDepth 100000 in
theorem c_X1_thrown (l : Launch) (D : va_G) (cy : ClassId) (h : Nat) (a : Nat → Nat) (th : Int32) (N L : Nat) (A : Nat → Nat → Int32) : Met l yX1_thrown (Cond.code yX1_thrown cX1_thrown 1 (some .int) :: kr_all) ({ frames := 0, cells := 0, slots := 0, locals := 0 }) (va_Pc [.ref h] (kr_R D (kr_W1 cy h a th N L A) cy)) (vp_Si (fun r => r = th)) 0 0 (fun _ => False) := by
  refine kr_of (by decide) (Nat.le_of_ble_eq_true rfl) ?_
  intro p e s m below meth c ls hx hb hml hr hts hown hlocks hin hv hl
  obtain ⟨hP, hK⟩ := hv
  have hown : s.vm.findClass RX1 = some m.cls := hown
  have hl : lv_has ls 1 [(0, .ref h)] := hl
  refine lv_aload_n hx hb dX1_thrown_0 rfl (lv_at hl 0 rfl) ?_
  refine va_get (ci := 1) (v := .int th) (C := RX1) (T := TX1) (N := 11) hx hb hts kr_wsX1 hown hK hP 0 rfl rfl 0 (by decide) (hts _ kq_542) (fun _ h9 => h9) rfl dX1_thrown_1 ?_
  exact kr_eI hx hb hr hlocks rfl rfl dX1_thrown_4
set_option maxHeartbeats 4000000 in
set_option maxRecDepth 100000 in
theorem c_X1_no (l : Launch) (D : va_G) (cy : ClassId) (h : Nat) (a : Nat → Nat) (th : Int32) (N L : Nat) (A : Nat → Nat → Int32) (sz : Nat) (x : Int32) : Met l yX1_no (Cond.code yX1_no cX1_no 2 (some .int) :: kr_all) ({ frames := 0, cells := 0, slots := 0, locals := 0 }) (va_Pc [.ref h, .int x] (kr_Rw D (kr_W1 cy h a th N L A) cy sz)) (va_Qi (fun r (_ : Unit) => r = 0) (fun _ t => kr_Rq D (kr_W1 cy h a x N L A) cy (va_A (kr_W1 cy h a th N L A) sz) t) (va_A (kr_W1 cy h a th N L A) sz)) 0 0 (va_A (kr_W1 cy h a th N L A) sz) := by
  refine kr_ofw (Qc := fun AA => va_Qi (fun r (_ : Unit) => r = 0) (fun _ t => kr_Rq D (kr_W1 cy h a x N L A) cy AA t) AA) (by decide) (Nat.le_of_ble_eq_true rfl) ?_
  intro p e s m below meth c ls AA hx hb hml hr hts hown hlocks hin hA hP hK hD hS hl
  have hown : s.vm.findClass RX1 = some m.cls := hown
  have hl : lv_has ls 2 [(0, .ref h), (1, .int x)] := hl
  refine lv_aload_n hx hb dX1_no_0 rfl (lv_at hl 0 rfl) ?_
  refine lv_iload_n hx hb dX1_no_1 rfl (lv_at hl 1 rfl) ?_
  refine va_put (ci := 1) (v := .int x) (ty := .int) (C := RX1) (T := TX1) (N := 11) hx hb hts kr_wsX1 tyX1 tyX1_ok nmX1 hown hK hP hD hS 0 rfl rfl 0 (by decide) (hts _ kq_542) (fun _ h9 => h9) rfl (by decide +kernel) rfl rfl (Nat.le_of_ble_eq_true rfl) dX1_no_2 (fun H locs hP hD hS => ?_)
  have hP : va_P D vwCl (kr_W1 cy h a x N L A) H := hP
  have hD : va_D AA (kr_W1 cy h a x N L A) := hD
  refine lv_iconst (v := 0) hx hb dX1_no_5 (by decide) ?_
  exact kr_wI hx hb hr hlocks hP hK hD hS rfl dX1_no_6
set_option maxHeartbeats 4000000 in
set_option maxRecDepth 100000 in
theorem c_X1_ok (l : Launch) (D : va_G) (cy : ClassId) (h : Nat) (a : Nat → Nat) (th : Int32) (N L : Nat) (A : Nat → Nat → Int32) (sz : Nat) (x : Int32) : Met l yX1_ok (Cond.code yX1_ok cX1_ok 2 (some .int) :: kr_all) ({ frames := 0, cells := 0, slots := 0, locals := 0 }) (va_Pc [.ref h, .int x] (kr_Rw D (kr_W1 cy h a th N L A) cy sz)) (va_Qi (fun r (_ : Unit) => r = x) (fun _ t => kr_Rq D (kr_W1 cy h a 0 N L A) cy (va_A (kr_W1 cy h a th N L A) sz) t) (va_A (kr_W1 cy h a th N L A) sz)) 0 0 (va_A (kr_W1 cy h a th N L A) sz) := by
  refine kr_ofw (Qc := fun AA => va_Qi (fun r (_ : Unit) => r = x) (fun _ t => kr_Rq D (kr_W1 cy h a 0 N L A) cy AA t) AA) (by decide) (Nat.le_of_ble_eq_true rfl) ?_
  intro p e s m below meth c ls AA hx hb hml hr hts hown hlocks hin hA hP hK hD hS hl
  have hown : s.vm.findClass RX1 = some m.cls := hown
  have hl : lv_has ls 2 [(0, .ref h), (1, .int x)] := hl
  refine lv_aload_n hx hb dX1_ok_0 rfl (lv_at hl 0 rfl) ?_
  refine lv_iconst (v := 0) hx hb dX1_ok_1 (by decide) ?_
  refine va_put (ci := 1) (v := .int 0) (ty := .int) (C := RX1) (T := TX1) (N := 11) hx hb hts kr_wsX1 tyX1 tyX1_ok nmX1 hown hK hP hD hS 0 rfl rfl 0 (by decide) (hts _ kq_542) (fun _ h9 => h9) rfl (by decide +kernel) rfl rfl (Nat.le_of_ble_eq_true rfl) dX1_ok_2 (fun H locs hP hD hS => ?_)
  have hP : va_P D vwCl (kr_W1 cy h a 0 N L A) H := hP
  have hD : va_D AA (kr_W1 cy h a 0 N L A) := hD
  refine lv_iload_n hx hb dX1_ok_5 rfl (lv_at hl 1 rfl) ?_
  exact kr_wI hx hb hr hlocks hP hK hD hS rfl dX1_ok_6
theorem kg_RX1_106 : GoodIn kr_all (wsV RX1 106 RX1 yX1_ok (Cond.code yX1_ok cX1_ok 2 (some .int) :: kr_all)) := kr_gV kq_654 kq_656 kq_32 kq_49 kq_657
set_option maxHeartbeats 4000000 in
set_option maxRecDepth 100000 in
theorem c_X1_knots (l : Launch) (D : va_G) (cy : ClassId) (h : Nat) (a : Nat → Nat) (th : Int32) (N L : Nat) (A : Nat → Nat → Int32) (sz : Nat) : Met l yX1_knots (Cond.code yX1_knots cX1_knots 1 (some .int) :: kr_all) ({ frames := 1, cells := 0, slots := 0, locals := 21 }) (va_Pc [.ref h] (kr_Rw D (kr_W1 cy h a th N L A) cy sz)) (va_Qi (fun r (_ : Unit) => r = nI N) (fun _ t => kr_Rq D (kr_W1 cy h a 0 N L A) cy (va_A (kr_W1 cy h a th N L A) sz) t) (va_A (kr_W1 cy h a th N L A) sz)) 0 0 (va_A (kr_W1 cy h a th N L A) sz) := by
  refine kr_ofw (Qc := fun AA => va_Qi (fun r (_ : Unit) => r = nI N) (fun _ t => kr_Rq D (kr_W1 cy h a 0 N L A) cy AA t) AA) (by decide) (Nat.le_of_ble_eq_true rfl) ?_
  intro p e s m below meth c ls AA hx hb hml hr hts hown hlocks hin hA hP hK hD hS hl
  have hown : s.vm.findClass RX1 = some m.cls := hown
  have hl : lv_has ls 1 [(0, .ref h)] := hl
  refine lv_aload_n hx hb dX1_knots_0 rfl (lv_at hl 0 rfl) ?_
  refine lv_aload_n hx hb dX1_knots_1 rfl (lv_at hl 0 rfl) ?_
  refine va_get (ci := 1) (v := .int (nI N)) (C := RX1) (T := TX1) (N := 11) hx hb hts kr_wsX1 hown hK hP 0 rfl rfl 1 (by decide) (hts _ kq_543) (fun _ h9 => h9) rfl dX1_knots_2 ?_
  refine kr_wvI (n := 1) (As := [.int (nI N)]) (rest := []) ⟨hx, hb, hml, hown, hts⟩ (c_X1_ok l D cy h a th N L A s.heap.size (nI N)) kg_RX1_106 ⟨rfl, rfl⟩ (by decide +kernel) ⟨Nat.le_of_ble_eq_true rfl, Nat.le_of_ble_eq_true rfl⟩ (va_recv hK hP (ci := 1) (q0 := 0) rfl rfl) hP hK hD hS hA rfl hl.1 rfl (Nat.le_of_ble_eq_true rfl) dX1_knots_5 ⟨Nat.le_of_ble_eq_true rfl, Nat.le_of_ble_eq_true rfl⟩ (fun r9 u9 H locs e9 hP hD hS => ?_)
  subst e9
  exact kr_wI hx hb hr hlocks hP hK hD hS rfl dX1_knots_8
set_option maxHeartbeats 4000000 in
set_option maxRecDepth 100000 in
theorem c_X1_lines (l : Launch) (D : va_G) (cy : ClassId) (h : Nat) (a : Nat → Nat) (th : Int32) (N L : Nat) (A : Nat → Nat → Int32) (sz : Nat) : Met l yX1_lines (Cond.code yX1_lines cX1_lines 1 (some .int) :: kr_all) ({ frames := 1, cells := 0, slots := 0, locals := 21 }) (va_Pc [.ref h] (kr_Rw D (kr_W1 cy h a th N L A) cy sz)) (va_Qi (fun r (_ : Unit) => r = nI L) (fun _ t => kr_Rq D (kr_W1 cy h a 0 N L A) cy (va_A (kr_W1 cy h a th N L A) sz) t) (va_A (kr_W1 cy h a th N L A) sz)) 0 0 (va_A (kr_W1 cy h a th N L A) sz) := by
  refine kr_ofw (Qc := fun AA => va_Qi (fun r (_ : Unit) => r = nI L) (fun _ t => kr_Rq D (kr_W1 cy h a 0 N L A) cy AA t) AA) (by decide) (Nat.le_of_ble_eq_true rfl) ?_
  intro p e s m below meth c ls AA hx hb hml hr hts hown hlocks hin hA hP hK hD hS hl
  have hown : s.vm.findClass RX1 = some m.cls := hown
  have hl : lv_has ls 1 [(0, .ref h)] := hl
  refine lv_aload_n hx hb dX1_lines_0 rfl (lv_at hl 0 rfl) ?_
  refine lv_aload_n hx hb dX1_lines_1 rfl (lv_at hl 0 rfl) ?_
  refine va_get (ci := 1) (v := .int (nI L)) (C := RX1) (T := TX1) (N := 11) hx hb hts kr_wsX1 hown hK hP 0 rfl rfl 7 (by decide) (hts _ kq_549) (fun _ h9 => h9) rfl dX1_lines_2 ?_
  refine kr_wvI (n := 1) (As := [.int (nI L)]) (rest := []) ⟨hx, hb, hml, hown, hts⟩ (c_X1_ok l D cy h a th N L A s.heap.size (nI L)) kg_RX1_106 ⟨rfl, rfl⟩ (by decide +kernel) ⟨Nat.le_of_ble_eq_true rfl, Nat.le_of_ble_eq_true rfl⟩ (va_recv hK hP (ci := 1) (q0 := 0) rfl rfl) hP hK hD hS hA rfl hl.1 rfl (Nat.le_of_ble_eq_true rfl) dX1_lines_5 ⟨Nat.le_of_ble_eq_true rfl, Nat.le_of_ble_eq_true rfl⟩ (fun r9 u9 H locs e9 hP hD hS => ?_)
  subst e9
  exact kr_wI hx hb hr hlocks hP hK hD hS rfl dX1_lines_8
theorem kg_RX1_137 : GoodIn kr_all (wsV RX1 137 RX1 yX1_strongest (Cond.code yX1_strongest cX1_strongest 3 (some .int) :: kr_all)) := kr_gV kq_795 kq_797 kq_46 kq_49 kq_798
set_option maxHeartbeats 4000000 in
set_option maxRecDepth 100000 in
theorem c_X1_strongestLine (l : Launch) (D : va_G) (cy : ClassId) (h : Nat) (a : Nat → Nat) (th : Int32) (N L : Nat) (A : Nat → Nat → Int32) (sz : Nat) (hw : kr_wf N L A) : Met l yX1_strongestLine (Cond.code yX1_strongestLine cX1_strongestLine 1 (some .int) :: kr_all) ({ frames := 5, cells := 0, slots := 0, locals := 108 }) (va_Pc [.ref h] (kr_Rw D (kr_W1 cy h a th N L A) cy sz)) (va_Qi (fun r (_ : Unit) => r = kr_sg A L 0 (-1)) (fun _ t => kr_Rq D (kr_W1 cy h a 0 N L A) cy (va_A (kr_W1 cy h a th N L A) sz) t) (va_A (kr_W1 cy h a th N L A) sz)) 0 0 (va_A (kr_W1 cy h a th N L A) sz) := by
  refine kr_ofw (Qc := fun AA => va_Qi (fun r (_ : Unit) => r = kr_sg A L 0 (-1)) (fun _ t => kr_Rq D (kr_W1 cy h a 0 N L A) cy AA t) AA) (by decide) (Nat.le_of_ble_eq_true rfl) ?_
  intro p e s m below meth c ls AA hx hb hml hr hts hown hlocks hin hA hP hK hD hS hl
  have hown : s.vm.findClass RX1 = some m.cls := hown
  have hl : lv_has ls 1 [(0, .ref h)] := hl
  refine lv_aload_n hx hb dX1_strongestLine_0 rfl (lv_at hl 0 rfl) ?_
  refine lv_aload_n hx hb dX1_strongestLine_1 rfl (lv_at hl 0 rfl) ?_
  refine kr_vI (n := 0) (As := []) (rest := [.ref h]) ⟨hx, hb, hml, hown, hts⟩ (c_X1_strongest l D cy h a th N L A hw) kg_RX1_137 ⟨rfl, rfl⟩ (by decide +kernel) ⟨Nat.le_of_ble_eq_true rfl, Nat.le_of_ble_eq_true rfl⟩ (kr_pv1 hP hK) rfl hl.1 rfl (Nat.le_of_ble_eq_true rfl) dX1_strongestLine_2 ⟨Nat.zero_le _, Nat.zero_le _⟩ (fun r9 e9 => ?_)
  subst e9
  refine kr_wvI (n := 1) (As := [.int (kr_sg A L 0 (-1))]) (rest := []) ⟨hx, hb, hml, hown, hts⟩ (c_X1_ok l D cy h a th N L A s.heap.size (kr_sg A L 0 (-1))) kg_RX1_106 ⟨rfl, rfl⟩ (by decide +kernel) ⟨Nat.le_of_ble_eq_true rfl, Nat.le_of_ble_eq_true rfl⟩ (va_recv hK hP (ci := 1) (q0 := 0) rfl rfl) hP hK hD hS hA rfl hl.1 rfl (Nat.le_of_ble_eq_true rfl) dX1_strongestLine_5 ⟨Nat.le_of_ble_eq_true rfl, Nat.le_of_ble_eq_true rfl⟩ (fun r9 u9 H locs e9 hP hD hS => ?_)
  subst e9
  exact kr_wI hx hb hr hlocks hP hK hD hS rfl dX1_strongestLine_8
theorem kg_RX1_91 : GoodIn kr_all (wsV RX1 91 RX1 yX1_isKnot (Cond.code yX1_isKnot cX1_isKnot 2 (some .boolean) :: kr_all)) := kr_gV kq_595 kq_597 kq_24 kq_49 kq_598
theorem kg_RX1_88 : GoodIn kr_all (wsV RX1 88 RX1 yX1_no (Cond.code yX1_no cX1_no 2 (some .int) :: kr_all)) := kr_gV kq_587 kq_589 kq_23 kq_49 kq_590
set_option maxHeartbeats 4000000 in
set_option maxRecDepth 100000 in
theorem c_X1_of_0 (l : Launch) (D : va_G) (cy : ClassId) (h : Nat) (a : Nat → Nat) (th : Int32) (N L : Nat) (A : Nat → Nat → Int32) (sz : Nat) (x : Int32) (hw : kr_wf N L A) : Met l yX1_of (Cond.code yX1_of cX1_of 3 (some .int) :: kr_all) ({ frames := 2, cells := 0, slots := 0, locals := 43 }) (va_Pc [.ref h, .int x, .ref (a 0)] (kr_Rw D (kr_W1 cy h a th N L A) cy sz)) (va_Qi (fun r (_ : Unit) => kr_cd (kr_i N x) True True = 0 → r = A 0 (kr_ix x)) (fun _ t => kr_Rq D (kr_W1 cy h a (kr_cd (kr_i N x) True True) N L A) cy (va_A (kr_W1 cy h a th N L A) sz) t) (va_A (kr_W1 cy h a th N L A) sz)) 0 0 (va_A (kr_W1 cy h a th N L A) sz) := by
  refine kr_ofw (Qc := fun AA => va_Qi (fun r (_ : Unit) => kr_cd (kr_i N x) True True = 0 → r = A 0 (kr_ix x)) (fun _ t => kr_Rq D (kr_W1 cy h a (kr_cd (kr_i N x) True True) N L A) cy AA t) AA) (by decide) (Nat.le_of_ble_eq_true rfl) ?_
  intro p e s m below meth c ls AA hx hb hml hr hts hown hlocks hin hA hP hK hD hS hl
  have hown : s.vm.findClass RX1 = some m.cls := hown
  have hl : lv_has ls 3 [(0, .ref h), (1, .int x), (2, .ref (a 0))] := hl
  have hN := hw.1
  refine lv_aload_n hx hb dX1_of_0 rfl (lv_at hl 0 rfl) ?_
  refine lv_iconst (v := 0) hx hb dX1_of_1 (by decide) ?_
  refine va_put (ci := 1) (v := .int 0) (ty := .int) (C := RX1) (T := TX1) (N := 11) hx hb hts kr_wsX1 tyX1 tyX1_ok nmX1 hown hK hP hD hS 0 rfl rfl 0 (by decide) (hts _ kq_542) (fun _ h9 => h9) rfl (by decide +kernel) rfl rfl (Nat.le_of_ble_eq_true rfl) dX1_of_2 (fun H locs hP hD hS => ?_)
  have hP : va_P D vwCl (kr_W1 cy h a 0 N L A) H := hP
  have hD : va_D AA (kr_W1 cy h a 0 N L A) := hD
  refine lv_aload_n hx hb dX1_of_5 rfl (lv_at hl 0 rfl) ?_
  refine lv_iload_n hx hb dX1_of_6 rfl (lv_at hl 1 rfl) ?_
  refine kr_vI (n := 1) (As := [.int x]) (rest := []) ⟨hx, hb, hml, hown, hts⟩ (c_X1_isKnot l D cy h a 0 N L A x (by omega)) kg_RX1_91 ⟨rfl, rfl⟩ (by decide +kernel) ⟨Nat.le_of_ble_eq_true rfl, Nat.le_of_ble_eq_true rfl⟩ (kr_pv1 hP hK) rfl hl.1 rfl (Nat.le_of_ble_eq_true rfl) dX1_of_7 ⟨Nat.zero_le _, Nat.zero_le _⟩ (fun r9 e9 => ?_)
  subst e9
  refine lv_if_eq (tgt := 19) hx hb dX1_of_10 (by decide) (fun c10 => ?_) (fun c10 => ?_)
  · rw [kr_cd1 (kr_if0 c10)]
    refine lv_aload_n hx hb dX1_of_19 rfl (lv_at hl 0 rfl) ?_
    refine lv_iconst (v := 1) hx hb dX1_of_20 (by decide) ?_
    refine kr_wvI (n := 1) (As := [.int 1]) (rest := []) ⟨hx, hb, hml, hown, hts⟩ (c_X1_no l D cy h a 0 N L A H.size 1) kg_RX1_88 ⟨rfl, rfl⟩ (by decide +kernel) ⟨Nat.le_of_ble_eq_true rfl, Nat.le_of_ble_eq_true rfl⟩ (va_recv hK hP (ci := 1) (q0 := 0) rfl rfl) hP hK hD hS hA rfl hl.1 rfl (Nat.le_of_ble_eq_true rfl) dX1_of_21 ⟨Nat.le_of_ble_eq_true rfl, Nat.le_of_ble_eq_true rfl⟩ (fun r9 u9 H locs e9 hP hD hS => ?_)
    subst e9
    exact kr_wI hx hb hr hlocks hP hK hD hS (fun z => absurd z (by decide)) dX1_of_24
  · have hk := kr_if1 c10
    rw [kr_cd0 hk trivial trivial]
    obtain ⟨k, hk2, rfl⟩ := kr_inN hN hk
    refine lv_aload_n hx hb dX1_of_13 rfl (lv_at hl 2 rfl) ?_
    refine lv_iload_n hx hb dX1_of_14 rfl (lv_at hl 1 rfl) ?_
    refine kr_ald hx hb hK hP 1 0 rfl rfl k (by omega) (by decide) dX1_of_15 ?_
    refine lv_goto (tgt := 24) hx hb dX1_of_16 (by decide) ?_
    exact kr_wI hx hb hr hlocks hP hK hD hS (fun _ => by rw [kr_ix_nI (by omega)]) dX1_of_24
set_option maxHeartbeats 4000000 in
set_option maxRecDepth 100000 in
theorem c_X1_of_1 (l : Launch) (D : va_G) (cy : ClassId) (h : Nat) (a : Nat → Nat) (th : Int32) (N L : Nat) (A : Nat → Nat → Int32) (sz : Nat) (x : Int32) (hw : kr_wf N L A) : Met l yX1_of (Cond.code yX1_of cX1_of 3 (some .int) :: kr_all) ({ frames := 2, cells := 0, slots := 0, locals := 43 }) (va_Pc [.ref h, .int x, .ref (a 1)] (kr_Rw D (kr_W1 cy h a th N L A) cy sz)) (va_Qi (fun r (_ : Unit) => kr_cd (kr_i N x) True True = 0 → r = A 1 (kr_ix x)) (fun _ t => kr_Rq D (kr_W1 cy h a (kr_cd (kr_i N x) True True) N L A) cy (va_A (kr_W1 cy h a th N L A) sz) t) (va_A (kr_W1 cy h a th N L A) sz)) 0 0 (va_A (kr_W1 cy h a th N L A) sz) := by
  refine kr_ofw (Qc := fun AA => va_Qi (fun r (_ : Unit) => kr_cd (kr_i N x) True True = 0 → r = A 1 (kr_ix x)) (fun _ t => kr_Rq D (kr_W1 cy h a (kr_cd (kr_i N x) True True) N L A) cy AA t) AA) (by decide) (Nat.le_of_ble_eq_true rfl) ?_
  intro p e s m below meth c ls AA hx hb hml hr hts hown hlocks hin hA hP hK hD hS hl
  have hown : s.vm.findClass RX1 = some m.cls := hown
  have hl : lv_has ls 3 [(0, .ref h), (1, .int x), (2, .ref (a 1))] := hl
  have hN := hw.1
  refine lv_aload_n hx hb dX1_of_0 rfl (lv_at hl 0 rfl) ?_
  refine lv_iconst (v := 0) hx hb dX1_of_1 (by decide) ?_
  refine va_put (ci := 1) (v := .int 0) (ty := .int) (C := RX1) (T := TX1) (N := 11) hx hb hts kr_wsX1 tyX1 tyX1_ok nmX1 hown hK hP hD hS 0 rfl rfl 0 (by decide) (hts _ kq_542) (fun _ h9 => h9) rfl (by decide +kernel) rfl rfl (Nat.le_of_ble_eq_true rfl) dX1_of_2 (fun H locs hP hD hS => ?_)
  have hP : va_P D vwCl (kr_W1 cy h a 0 N L A) H := hP
  have hD : va_D AA (kr_W1 cy h a 0 N L A) := hD
  refine lv_aload_n hx hb dX1_of_5 rfl (lv_at hl 0 rfl) ?_
  refine lv_iload_n hx hb dX1_of_6 rfl (lv_at hl 1 rfl) ?_
  refine kr_vI (n := 1) (As := [.int x]) (rest := []) ⟨hx, hb, hml, hown, hts⟩ (c_X1_isKnot l D cy h a 0 N L A x (by omega)) kg_RX1_91 ⟨rfl, rfl⟩ (by decide +kernel) ⟨Nat.le_of_ble_eq_true rfl, Nat.le_of_ble_eq_true rfl⟩ (kr_pv1 hP hK) rfl hl.1 rfl (Nat.le_of_ble_eq_true rfl) dX1_of_7 ⟨Nat.zero_le _, Nat.zero_le _⟩ (fun r9 e9 => ?_)
  subst e9
  refine lv_if_eq (tgt := 19) hx hb dX1_of_10 (by decide) (fun c10 => ?_) (fun c10 => ?_)
  · rw [kr_cd1 (kr_if0 c10)]
    refine lv_aload_n hx hb dX1_of_19 rfl (lv_at hl 0 rfl) ?_
    refine lv_iconst (v := 1) hx hb dX1_of_20 (by decide) ?_
    refine kr_wvI (n := 1) (As := [.int 1]) (rest := []) ⟨hx, hb, hml, hown, hts⟩ (c_X1_no l D cy h a 0 N L A H.size 1) kg_RX1_88 ⟨rfl, rfl⟩ (by decide +kernel) ⟨Nat.le_of_ble_eq_true rfl, Nat.le_of_ble_eq_true rfl⟩ (va_recv hK hP (ci := 1) (q0 := 0) rfl rfl) hP hK hD hS hA rfl hl.1 rfl (Nat.le_of_ble_eq_true rfl) dX1_of_21 ⟨Nat.le_of_ble_eq_true rfl, Nat.le_of_ble_eq_true rfl⟩ (fun r9 u9 H locs e9 hP hD hS => ?_)
    subst e9
    exact kr_wI hx hb hr hlocks hP hK hD hS (fun z => absurd z (by decide)) dX1_of_24
  · have hk := kr_if1 c10
    rw [kr_cd0 hk trivial trivial]
    obtain ⟨k, hk2, rfl⟩ := kr_inN hN hk
    refine lv_aload_n hx hb dX1_of_13 rfl (lv_at hl 2 rfl) ?_
    refine lv_iload_n hx hb dX1_of_14 rfl (lv_at hl 1 rfl) ?_
    refine kr_ald hx hb hK hP 2 0 rfl rfl k (by omega) (by decide) dX1_of_15 ?_
    refine lv_goto (tgt := 24) hx hb dX1_of_16 (by decide) ?_
    exact kr_wI hx hb hr hlocks hP hK hD hS (fun _ => by rw [kr_ix_nI (by omega)]) dX1_of_24
set_option maxHeartbeats 4000000 in
set_option maxRecDepth 100000 in
theorem c_X1_of_2 (l : Launch) (D : va_G) (cy : ClassId) (h : Nat) (a : Nat → Nat) (th : Int32) (N L : Nat) (A : Nat → Nat → Int32) (sz : Nat) (x : Int32) (hw : kr_wf N L A) : Met l yX1_of (Cond.code yX1_of cX1_of 3 (some .int) :: kr_all) ({ frames := 2, cells := 0, slots := 0, locals := 43 }) (va_Pc [.ref h, .int x, .ref (a 2)] (kr_Rw D (kr_W1 cy h a th N L A) cy sz)) (va_Qi (fun r (_ : Unit) => kr_cd (kr_i N x) True True = 0 → r = A 2 (kr_ix x)) (fun _ t => kr_Rq D (kr_W1 cy h a (kr_cd (kr_i N x) True True) N L A) cy (va_A (kr_W1 cy h a th N L A) sz) t) (va_A (kr_W1 cy h a th N L A) sz)) 0 0 (va_A (kr_W1 cy h a th N L A) sz) := by
  refine kr_ofw (Qc := fun AA => va_Qi (fun r (_ : Unit) => kr_cd (kr_i N x) True True = 0 → r = A 2 (kr_ix x)) (fun _ t => kr_Rq D (kr_W1 cy h a (kr_cd (kr_i N x) True True) N L A) cy AA t) AA) (by decide) (Nat.le_of_ble_eq_true rfl) ?_
  intro p e s m below meth c ls AA hx hb hml hr hts hown hlocks hin hA hP hK hD hS hl
  have hown : s.vm.findClass RX1 = some m.cls := hown
  have hl : lv_has ls 3 [(0, .ref h), (1, .int x), (2, .ref (a 2))] := hl
  have hN := hw.1
  refine lv_aload_n hx hb dX1_of_0 rfl (lv_at hl 0 rfl) ?_
  refine lv_iconst (v := 0) hx hb dX1_of_1 (by decide) ?_
  refine va_put (ci := 1) (v := .int 0) (ty := .int) (C := RX1) (T := TX1) (N := 11) hx hb hts kr_wsX1 tyX1 tyX1_ok nmX1 hown hK hP hD hS 0 rfl rfl 0 (by decide) (hts _ kq_542) (fun _ h9 => h9) rfl (by decide +kernel) rfl rfl (Nat.le_of_ble_eq_true rfl) dX1_of_2 (fun H locs hP hD hS => ?_)
  have hP : va_P D vwCl (kr_W1 cy h a 0 N L A) H := hP
  have hD : va_D AA (kr_W1 cy h a 0 N L A) := hD
  refine lv_aload_n hx hb dX1_of_5 rfl (lv_at hl 0 rfl) ?_
  refine lv_iload_n hx hb dX1_of_6 rfl (lv_at hl 1 rfl) ?_
  refine kr_vI (n := 1) (As := [.int x]) (rest := []) ⟨hx, hb, hml, hown, hts⟩ (c_X1_isKnot l D cy h a 0 N L A x (by omega)) kg_RX1_91 ⟨rfl, rfl⟩ (by decide +kernel) ⟨Nat.le_of_ble_eq_true rfl, Nat.le_of_ble_eq_true rfl⟩ (kr_pv1 hP hK) rfl hl.1 rfl (Nat.le_of_ble_eq_true rfl) dX1_of_7 ⟨Nat.zero_le _, Nat.zero_le _⟩ (fun r9 e9 => ?_)
  subst e9
  refine lv_if_eq (tgt := 19) hx hb dX1_of_10 (by decide) (fun c10 => ?_) (fun c10 => ?_)
  · rw [kr_cd1 (kr_if0 c10)]
    refine lv_aload_n hx hb dX1_of_19 rfl (lv_at hl 0 rfl) ?_
    refine lv_iconst (v := 1) hx hb dX1_of_20 (by decide) ?_
    refine kr_wvI (n := 1) (As := [.int 1]) (rest := []) ⟨hx, hb, hml, hown, hts⟩ (c_X1_no l D cy h a 0 N L A H.size 1) kg_RX1_88 ⟨rfl, rfl⟩ (by decide +kernel) ⟨Nat.le_of_ble_eq_true rfl, Nat.le_of_ble_eq_true rfl⟩ (va_recv hK hP (ci := 1) (q0 := 0) rfl rfl) hP hK hD hS hA rfl hl.1 rfl (Nat.le_of_ble_eq_true rfl) dX1_of_21 ⟨Nat.le_of_ble_eq_true rfl, Nat.le_of_ble_eq_true rfl⟩ (fun r9 u9 H locs e9 hP hD hS => ?_)
    subst e9
    exact kr_wI hx hb hr hlocks hP hK hD hS (fun z => absurd z (by decide)) dX1_of_24
  · have hk := kr_if1 c10
    rw [kr_cd0 hk trivial trivial]
    obtain ⟨k, hk2, rfl⟩ := kr_inN hN hk
    refine lv_aload_n hx hb dX1_of_13 rfl (lv_at hl 2 rfl) ?_
    refine lv_iload_n hx hb dX1_of_14 rfl (lv_at hl 1 rfl) ?_
    refine kr_ald hx hb hK hP 3 0 rfl rfl k (by omega) (by decide) dX1_of_15 ?_
    refine lv_goto (tgt := 24) hx hb dX1_of_16 (by decide) ?_
    exact kr_wI hx hb hr hlocks hP hK hD hS (fun _ => by rw [kr_ix_nI (by omega)]) dX1_of_24
set_option maxHeartbeats 4000000 in
set_option maxRecDepth 100000 in
theorem c_X1_of_3 (l : Launch) (D : va_G) (cy : ClassId) (h : Nat) (a : Nat → Nat) (th : Int32) (N L : Nat) (A : Nat → Nat → Int32) (sz : Nat) (x : Int32) (hw : kr_wf N L A) : Met l yX1_of (Cond.code yX1_of cX1_of 3 (some .int) :: kr_all) ({ frames := 2, cells := 0, slots := 0, locals := 43 }) (va_Pc [.ref h, .int x, .ref (a 3)] (kr_Rw D (kr_W1 cy h a th N L A) cy sz)) (va_Qi (fun r (_ : Unit) => kr_cd (kr_i N x) True True = 0 → r = A 3 (kr_ix x)) (fun _ t => kr_Rq D (kr_W1 cy h a (kr_cd (kr_i N x) True True) N L A) cy (va_A (kr_W1 cy h a th N L A) sz) t) (va_A (kr_W1 cy h a th N L A) sz)) 0 0 (va_A (kr_W1 cy h a th N L A) sz) := by
  refine kr_ofw (Qc := fun AA => va_Qi (fun r (_ : Unit) => kr_cd (kr_i N x) True True = 0 → r = A 3 (kr_ix x)) (fun _ t => kr_Rq D (kr_W1 cy h a (kr_cd (kr_i N x) True True) N L A) cy AA t) AA) (by decide) (Nat.le_of_ble_eq_true rfl) ?_
  intro p e s m below meth c ls AA hx hb hml hr hts hown hlocks hin hA hP hK hD hS hl
  have hown : s.vm.findClass RX1 = some m.cls := hown
  have hl : lv_has ls 3 [(0, .ref h), (1, .int x), (2, .ref (a 3))] := hl
  have hN := hw.1
  refine lv_aload_n hx hb dX1_of_0 rfl (lv_at hl 0 rfl) ?_
  refine lv_iconst (v := 0) hx hb dX1_of_1 (by decide) ?_
  refine va_put (ci := 1) (v := .int 0) (ty := .int) (C := RX1) (T := TX1) (N := 11) hx hb hts kr_wsX1 tyX1 tyX1_ok nmX1 hown hK hP hD hS 0 rfl rfl 0 (by decide) (hts _ kq_542) (fun _ h9 => h9) rfl (by decide +kernel) rfl rfl (Nat.le_of_ble_eq_true rfl) dX1_of_2 (fun H locs hP hD hS => ?_)
  have hP : va_P D vwCl (kr_W1 cy h a 0 N L A) H := hP
  have hD : va_D AA (kr_W1 cy h a 0 N L A) := hD
  refine lv_aload_n hx hb dX1_of_5 rfl (lv_at hl 0 rfl) ?_
  refine lv_iload_n hx hb dX1_of_6 rfl (lv_at hl 1 rfl) ?_
  refine kr_vI (n := 1) (As := [.int x]) (rest := []) ⟨hx, hb, hml, hown, hts⟩ (c_X1_isKnot l D cy h a 0 N L A x (by omega)) kg_RX1_91 ⟨rfl, rfl⟩ (by decide +kernel) ⟨Nat.le_of_ble_eq_true rfl, Nat.le_of_ble_eq_true rfl⟩ (kr_pv1 hP hK) rfl hl.1 rfl (Nat.le_of_ble_eq_true rfl) dX1_of_7 ⟨Nat.zero_le _, Nat.zero_le _⟩ (fun r9 e9 => ?_)
  subst e9
  refine lv_if_eq (tgt := 19) hx hb dX1_of_10 (by decide) (fun c10 => ?_) (fun c10 => ?_)
  · rw [kr_cd1 (kr_if0 c10)]
    refine lv_aload_n hx hb dX1_of_19 rfl (lv_at hl 0 rfl) ?_
    refine lv_iconst (v := 1) hx hb dX1_of_20 (by decide) ?_
    refine kr_wvI (n := 1) (As := [.int 1]) (rest := []) ⟨hx, hb, hml, hown, hts⟩ (c_X1_no l D cy h a 0 N L A H.size 1) kg_RX1_88 ⟨rfl, rfl⟩ (by decide +kernel) ⟨Nat.le_of_ble_eq_true rfl, Nat.le_of_ble_eq_true rfl⟩ (va_recv hK hP (ci := 1) (q0 := 0) rfl rfl) hP hK hD hS hA rfl hl.1 rfl (Nat.le_of_ble_eq_true rfl) dX1_of_21 ⟨Nat.le_of_ble_eq_true rfl, Nat.le_of_ble_eq_true rfl⟩ (fun r9 u9 H locs e9 hP hD hS => ?_)
    subst e9
    exact kr_wI hx hb hr hlocks hP hK hD hS (fun z => absurd z (by decide)) dX1_of_24
  · have hk := kr_if1 c10
    rw [kr_cd0 hk trivial trivial]
    obtain ⟨k, hk2, rfl⟩ := kr_inN hN hk
    refine lv_aload_n hx hb dX1_of_13 rfl (lv_at hl 2 rfl) ?_
    refine lv_iload_n hx hb dX1_of_14 rfl (lv_at hl 1 rfl) ?_
    refine kr_ald hx hb hK hP 4 0 rfl rfl k (by omega) (by decide) dX1_of_15 ?_
    refine lv_goto (tgt := 24) hx hb dX1_of_16 (by decide) ?_
    exact kr_wI hx hb hr hlocks hP hK hD hS (fun _ => by rw [kr_ix_nI (by omega)]) dX1_of_24
set_option maxHeartbeats 4000000 in
set_option maxRecDepth 100000 in
theorem c_X1_of_4 (l : Launch) (D : va_G) (cy : ClassId) (h : Nat) (a : Nat → Nat) (th : Int32) (N L : Nat) (A : Nat → Nat → Int32) (sz : Nat) (x : Int32) (hw : kr_wf N L A) : Met l yX1_of (Cond.code yX1_of cX1_of 3 (some .int) :: kr_all) ({ frames := 2, cells := 0, slots := 0, locals := 43 }) (va_Pc [.ref h, .int x, .ref (a 4)] (kr_Rw D (kr_W1 cy h a th N L A) cy sz)) (va_Qi (fun r (_ : Unit) => kr_cd (kr_i N x) True True = 0 → r = A 4 (kr_ix x)) (fun _ t => kr_Rq D (kr_W1 cy h a (kr_cd (kr_i N x) True True) N L A) cy (va_A (kr_W1 cy h a th N L A) sz) t) (va_A (kr_W1 cy h a th N L A) sz)) 0 0 (va_A (kr_W1 cy h a th N L A) sz) := by
  refine kr_ofw (Qc := fun AA => va_Qi (fun r (_ : Unit) => kr_cd (kr_i N x) True True = 0 → r = A 4 (kr_ix x)) (fun _ t => kr_Rq D (kr_W1 cy h a (kr_cd (kr_i N x) True True) N L A) cy AA t) AA) (by decide) (Nat.le_of_ble_eq_true rfl) ?_
  intro p e s m below meth c ls AA hx hb hml hr hts hown hlocks hin hA hP hK hD hS hl
  have hown : s.vm.findClass RX1 = some m.cls := hown
  have hl : lv_has ls 3 [(0, .ref h), (1, .int x), (2, .ref (a 4))] := hl
  have hN := hw.1
  refine lv_aload_n hx hb dX1_of_0 rfl (lv_at hl 0 rfl) ?_
  refine lv_iconst (v := 0) hx hb dX1_of_1 (by decide) ?_
  refine va_put (ci := 1) (v := .int 0) (ty := .int) (C := RX1) (T := TX1) (N := 11) hx hb hts kr_wsX1 tyX1 tyX1_ok nmX1 hown hK hP hD hS 0 rfl rfl 0 (by decide) (hts _ kq_542) (fun _ h9 => h9) rfl (by decide +kernel) rfl rfl (Nat.le_of_ble_eq_true rfl) dX1_of_2 (fun H locs hP hD hS => ?_)
  have hP : va_P D vwCl (kr_W1 cy h a 0 N L A) H := hP
  have hD : va_D AA (kr_W1 cy h a 0 N L A) := hD
  refine lv_aload_n hx hb dX1_of_5 rfl (lv_at hl 0 rfl) ?_
  refine lv_iload_n hx hb dX1_of_6 rfl (lv_at hl 1 rfl) ?_
  refine kr_vI (n := 1) (As := [.int x]) (rest := []) ⟨hx, hb, hml, hown, hts⟩ (c_X1_isKnot l D cy h a 0 N L A x (by omega)) kg_RX1_91 ⟨rfl, rfl⟩ (by decide +kernel) ⟨Nat.le_of_ble_eq_true rfl, Nat.le_of_ble_eq_true rfl⟩ (kr_pv1 hP hK) rfl hl.1 rfl (Nat.le_of_ble_eq_true rfl) dX1_of_7 ⟨Nat.zero_le _, Nat.zero_le _⟩ (fun r9 e9 => ?_)
  subst e9
  refine lv_if_eq (tgt := 19) hx hb dX1_of_10 (by decide) (fun c10 => ?_) (fun c10 => ?_)
  · rw [kr_cd1 (kr_if0 c10)]
    refine lv_aload_n hx hb dX1_of_19 rfl (lv_at hl 0 rfl) ?_
    refine lv_iconst (v := 1) hx hb dX1_of_20 (by decide) ?_
    refine kr_wvI (n := 1) (As := [.int 1]) (rest := []) ⟨hx, hb, hml, hown, hts⟩ (c_X1_no l D cy h a 0 N L A H.size 1) kg_RX1_88 ⟨rfl, rfl⟩ (by decide +kernel) ⟨Nat.le_of_ble_eq_true rfl, Nat.le_of_ble_eq_true rfl⟩ (va_recv hK hP (ci := 1) (q0 := 0) rfl rfl) hP hK hD hS hA rfl hl.1 rfl (Nat.le_of_ble_eq_true rfl) dX1_of_21 ⟨Nat.le_of_ble_eq_true rfl, Nat.le_of_ble_eq_true rfl⟩ (fun r9 u9 H locs e9 hP hD hS => ?_)
    subst e9
    exact kr_wI hx hb hr hlocks hP hK hD hS (fun z => absurd z (by decide)) dX1_of_24
  · have hk := kr_if1 c10
    rw [kr_cd0 hk trivial trivial]
    obtain ⟨k, hk2, rfl⟩ := kr_inN hN hk
    refine lv_aload_n hx hb dX1_of_13 rfl (lv_at hl 2 rfl) ?_
    refine lv_iload_n hx hb dX1_of_14 rfl (lv_at hl 1 rfl) ?_
    refine kr_ald hx hb hK hP 5 0 rfl rfl k (by omega) (by decide) dX1_of_15 ?_
    refine lv_goto (tgt := 24) hx hb dX1_of_16 (by decide) ?_
    exact kr_wI hx hb hr hlocks hP hK hD hS (fun _ => by rw [kr_ix_nI (by omega)]) dX1_of_24
theorem kg_RX1_112 : GoodIn kr_all (wsV RX1 112 RX1 yX1_of (Cond.code yX1_of cX1_of 3 (some .int) :: kr_all)) := kr_gV kq_670 kq_672 kq_34 kq_49 kq_673
set_option maxHeartbeats 4000000 in
set_option maxRecDepth 100000 in
theorem c_X1_kindOf (l : Launch) (D : va_G) (cy : ClassId) (h : Nat) (a : Nat → Nat) (th : Int32) (N L : Nat) (A : Nat → Nat → Int32) (sz : Nat) (x : Int32) (hw : kr_wf N L A) : Met l yX1_kindOf (Cond.code yX1_kindOf cX1_kindOf 2 (some .int) :: kr_all) ({ frames := 3, cells := 0, slots := 0, locals := 65 }) (va_Pc [.ref h, .int x] (kr_Rw D (kr_W1 cy h a th N L A) cy sz)) (va_Qi (fun r (_ : Unit) => kr_cd (kr_i N x) True True = 0 → r = A 0 (kr_ix x)) (fun _ t => kr_Rq D (kr_W1 cy h a (kr_cd (kr_i N x) True True) N L A) cy (va_A (kr_W1 cy h a th N L A) sz) t) (va_A (kr_W1 cy h a th N L A) sz)) 0 0 (va_A (kr_W1 cy h a th N L A) sz) := by
  refine kr_ofw (Qc := fun AA => va_Qi (fun r (_ : Unit) => kr_cd (kr_i N x) True True = 0 → r = A 0 (kr_ix x)) (fun _ t => kr_Rq D (kr_W1 cy h a (kr_cd (kr_i N x) True True) N L A) cy AA t) AA) (by decide) (Nat.le_of_ble_eq_true rfl) ?_
  intro p e s m below meth c ls AA hx hb hml hr hts hown hlocks hin hA hP hK hD hS hl
  have hown : s.vm.findClass RX1 = some m.cls := hown
  have hl : lv_has ls 2 [(0, .ref h), (1, .int x)] := hl
  refine lv_aload_n hx hb dX1_kindOf_0 rfl (lv_at hl 0 rfl) ?_
  refine lv_iload_n hx hb dX1_kindOf_1 rfl (lv_at hl 1 rfl) ?_
  refine lv_aload_n hx hb dX1_kindOf_2 rfl (lv_at hl 0 rfl) ?_
  refine va_get (ci := 1) (v := .ref (a 0)) (C := RX1) (T := TX1) (N := 11) hx hb hts kr_wsX1 hown hK hP 0 rfl rfl 2 (by decide) (hts _ kq_544) (fun _ h9 => h9) rfl dX1_kindOf_3 ?_
  refine kr_wvI (n := 2) (As := [.int x, .ref (a 0)]) (rest := []) ⟨hx, hb, hml, hown, hts⟩ (c_X1_of_0 l D cy h a th N L A s.heap.size x hw) kg_RX1_112 ⟨rfl, rfl⟩ (by decide +kernel) ⟨Nat.le_of_ble_eq_true rfl, Nat.le_of_ble_eq_true rfl⟩ (va_recv hK hP (ci := 1) (q0 := 0) rfl rfl) hP hK hD hS hA rfl hl.1 rfl (Nat.le_of_ble_eq_true rfl) dX1_kindOf_6 ⟨Nat.le_of_ble_eq_true rfl, Nat.le_of_ble_eq_true rfl⟩ (fun r9 u9 H locs e9 hP hD hS => ?_)
  exact kr_wI hx hb hr hlocks hP hK hD hS e9 dX1_kindOf_9
set_option maxHeartbeats 4000000 in
set_option maxRecDepth 100000 in
theorem c_X1_efficiencyOf (l : Launch) (D : va_G) (cy : ClassId) (h : Nat) (a : Nat → Nat) (th : Int32) (N L : Nat) (A : Nat → Nat → Int32) (sz : Nat) (x : Int32) (hw : kr_wf N L A) : Met l yX1_efficiencyOf (Cond.code yX1_efficiencyOf cX1_efficiencyOf 2 (some .int) :: kr_all) ({ frames := 3, cells := 0, slots := 0, locals := 65 }) (va_Pc [.ref h, .int x] (kr_Rw D (kr_W1 cy h a th N L A) cy sz)) (va_Qi (fun r (_ : Unit) => kr_cd (kr_i N x) True True = 0 → r = A 1 (kr_ix x)) (fun _ t => kr_Rq D (kr_W1 cy h a (kr_cd (kr_i N x) True True) N L A) cy (va_A (kr_W1 cy h a th N L A) sz) t) (va_A (kr_W1 cy h a th N L A) sz)) 0 0 (va_A (kr_W1 cy h a th N L A) sz) := by
  refine kr_ofw (Qc := fun AA => va_Qi (fun r (_ : Unit) => kr_cd (kr_i N x) True True = 0 → r = A 1 (kr_ix x)) (fun _ t => kr_Rq D (kr_W1 cy h a (kr_cd (kr_i N x) True True) N L A) cy AA t) AA) (by decide) (Nat.le_of_ble_eq_true rfl) ?_
  intro p e s m below meth c ls AA hx hb hml hr hts hown hlocks hin hA hP hK hD hS hl
  have hown : s.vm.findClass RX1 = some m.cls := hown
  have hl : lv_has ls 2 [(0, .ref h), (1, .int x)] := hl
  refine lv_aload_n hx hb dX1_efficiencyOf_0 rfl (lv_at hl 0 rfl) ?_
  refine lv_iload_n hx hb dX1_efficiencyOf_1 rfl (lv_at hl 1 rfl) ?_
  refine lv_aload_n hx hb dX1_efficiencyOf_2 rfl (lv_at hl 0 rfl) ?_
  refine va_get (ci := 1) (v := .ref (a 1)) (C := RX1) (T := TX1) (N := 11) hx hb hts kr_wsX1 hown hK hP 0 rfl rfl 3 (by decide) (hts _ kq_545) (fun _ h9 => h9) rfl dX1_efficiencyOf_3 ?_
  refine kr_wvI (n := 2) (As := [.int x, .ref (a 1)]) (rest := []) ⟨hx, hb, hml, hown, hts⟩ (c_X1_of_1 l D cy h a th N L A s.heap.size x hw) kg_RX1_112 ⟨rfl, rfl⟩ (by decide +kernel) ⟨Nat.le_of_ble_eq_true rfl, Nat.le_of_ble_eq_true rfl⟩ (va_recv hK hP (ci := 1) (q0 := 0) rfl rfl) hP hK hD hS hA rfl hl.1 rfl (Nat.le_of_ble_eq_true rfl) dX1_efficiencyOf_6 ⟨Nat.le_of_ble_eq_true rfl, Nat.le_of_ble_eq_true rfl⟩ (fun r9 u9 H locs e9 hP hD hS => ?_)
  exact kr_wI hx hb hr hlocks hP hK hD hS e9 dX1_efficiencyOf_9
set_option maxHeartbeats 4000000 in
set_option maxRecDepth 100000 in
theorem c_X1_crossingsOf (l : Launch) (D : va_G) (cy : ClassId) (h : Nat) (a : Nat → Nat) (th : Int32) (N L : Nat) (A : Nat → Nat → Int32) (sz : Nat) (x : Int32) (hw : kr_wf N L A) : Met l yX1_crossingsOf (Cond.code yX1_crossingsOf cX1_crossingsOf 2 (some .int) :: kr_all) ({ frames := 3, cells := 0, slots := 0, locals := 65 }) (va_Pc [.ref h, .int x] (kr_Rw D (kr_W1 cy h a th N L A) cy sz)) (va_Qi (fun r (_ : Unit) => kr_cd (kr_i N x) True True = 0 → r = A 2 (kr_ix x)) (fun _ t => kr_Rq D (kr_W1 cy h a (kr_cd (kr_i N x) True True) N L A) cy (va_A (kr_W1 cy h a th N L A) sz) t) (va_A (kr_W1 cy h a th N L A) sz)) 0 0 (va_A (kr_W1 cy h a th N L A) sz) := by
  refine kr_ofw (Qc := fun AA => va_Qi (fun r (_ : Unit) => kr_cd (kr_i N x) True True = 0 → r = A 2 (kr_ix x)) (fun _ t => kr_Rq D (kr_W1 cy h a (kr_cd (kr_i N x) True True) N L A) cy AA t) AA) (by decide) (Nat.le_of_ble_eq_true rfl) ?_
  intro p e s m below meth c ls AA hx hb hml hr hts hown hlocks hin hA hP hK hD hS hl
  have hown : s.vm.findClass RX1 = some m.cls := hown
  have hl : lv_has ls 2 [(0, .ref h), (1, .int x)] := hl
  refine lv_aload_n hx hb dX1_crossingsOf_0 rfl (lv_at hl 0 rfl) ?_
  refine lv_iload_n hx hb dX1_crossingsOf_1 rfl (lv_at hl 1 rfl) ?_
  refine lv_aload_n hx hb dX1_crossingsOf_2 rfl (lv_at hl 0 rfl) ?_
  refine va_get (ci := 1) (v := .ref (a 2)) (C := RX1) (T := TX1) (N := 11) hx hb hts kr_wsX1 hown hK hP 0 rfl rfl 4 (by decide) (hts _ kq_546) (fun _ h9 => h9) rfl dX1_crossingsOf_3 ?_
  refine kr_wvI (n := 2) (As := [.int x, .ref (a 2)]) (rest := []) ⟨hx, hb, hml, hown, hts⟩ (c_X1_of_2 l D cy h a th N L A s.heap.size x hw) kg_RX1_112 ⟨rfl, rfl⟩ (by decide +kernel) ⟨Nat.le_of_ble_eq_true rfl, Nat.le_of_ble_eq_true rfl⟩ (va_recv hK hP (ci := 1) (q0 := 0) rfl rfl) hP hK hD hS hA rfl hl.1 rfl (Nat.le_of_ble_eq_true rfl) dX1_crossingsOf_6 ⟨Nat.le_of_ble_eq_true rfl, Nat.le_of_ble_eq_true rfl⟩ (fun r9 u9 H locs e9 hP hD hS => ?_)
  exact kr_wI hx hb hr hlocks hP hK hD hS e9 dX1_crossingsOf_9
set_option maxHeartbeats 4000000 in
set_option maxRecDepth 100000 in
theorem c_X1_spillsAt (l : Launch) (D : va_G) (cy : ClassId) (h : Nat) (a : Nat → Nat) (th : Int32) (N L : Nat) (A : Nat → Nat → Int32) (sz : Nat) (x : Int32) (hw : kr_wf N L A) : Met l yX1_spillsAt (Cond.code yX1_spillsAt cX1_spillsAt 2 (some .int) :: kr_all) ({ frames := 3, cells := 0, slots := 0, locals := 65 }) (va_Pc [.ref h, .int x] (kr_Rw D (kr_W1 cy h a th N L A) cy sz)) (va_Qi (fun r (_ : Unit) => kr_cd (kr_i N x) True True = 0 → r = A 3 (kr_ix x)) (fun _ t => kr_Rq D (kr_W1 cy h a (kr_cd (kr_i N x) True True) N L A) cy (va_A (kr_W1 cy h a th N L A) sz) t) (va_A (kr_W1 cy h a th N L A) sz)) 0 0 (va_A (kr_W1 cy h a th N L A) sz) := by
  refine kr_ofw (Qc := fun AA => va_Qi (fun r (_ : Unit) => kr_cd (kr_i N x) True True = 0 → r = A 3 (kr_ix x)) (fun _ t => kr_Rq D (kr_W1 cy h a (kr_cd (kr_i N x) True True) N L A) cy AA t) AA) (by decide) (Nat.le_of_ble_eq_true rfl) ?_
  intro p e s m below meth c ls AA hx hb hml hr hts hown hlocks hin hA hP hK hD hS hl
  have hown : s.vm.findClass RX1 = some m.cls := hown
  have hl : lv_has ls 2 [(0, .ref h), (1, .int x)] := hl
  refine lv_aload_n hx hb dX1_spillsAt_0 rfl (lv_at hl 0 rfl) ?_
  refine lv_iload_n hx hb dX1_spillsAt_1 rfl (lv_at hl 1 rfl) ?_
  refine lv_aload_n hx hb dX1_spillsAt_2 rfl (lv_at hl 0 rfl) ?_
  refine va_get (ci := 1) (v := .ref (a 3)) (C := RX1) (T := TX1) (N := 11) hx hb hts kr_wsX1 hown hK hP 0 rfl rfl 5 (by decide) (hts _ kq_547) (fun _ h9 => h9) rfl dX1_spillsAt_3 ?_
  refine kr_wvI (n := 2) (As := [.int x, .ref (a 3)]) (rest := []) ⟨hx, hb, hml, hown, hts⟩ (c_X1_of_3 l D cy h a th N L A s.heap.size x hw) kg_RX1_112 ⟨rfl, rfl⟩ (by decide +kernel) ⟨Nat.le_of_ble_eq_true rfl, Nat.le_of_ble_eq_true rfl⟩ (va_recv hK hP (ci := 1) (q0 := 0) rfl rfl) hP hK hD hS hA rfl hl.1 rfl (Nat.le_of_ble_eq_true rfl) dX1_spillsAt_6 ⟨Nat.le_of_ble_eq_true rfl, Nat.le_of_ble_eq_true rfl⟩ (fun r9 u9 H locs e9 hP hD hS => ?_)
  exact kr_wI hx hb hr hlocks hP hK hD hS e9 dX1_spillsAt_9
set_option maxHeartbeats 4000000 in
set_option maxRecDepth 100000 in
theorem c_X1_spillsInto (l : Launch) (D : va_G) (cy : ClassId) (h : Nat) (a : Nat → Nat) (th : Int32) (N L : Nat) (A : Nat → Nat → Int32) (sz : Nat) (x : Int32) (hw : kr_wf N L A) : Met l yX1_spillsInto (Cond.code yX1_spillsInto cX1_spillsInto 2 (some .int) :: kr_all) ({ frames := 3, cells := 0, slots := 0, locals := 65 }) (va_Pc [.ref h, .int x] (kr_Rw D (kr_W1 cy h a th N L A) cy sz)) (va_Qi (fun r (_ : Unit) => kr_cd (kr_i N x) True True = 0 → r = A 4 (kr_ix x)) (fun _ t => kr_Rq D (kr_W1 cy h a (kr_cd (kr_i N x) True True) N L A) cy (va_A (kr_W1 cy h a th N L A) sz) t) (va_A (kr_W1 cy h a th N L A) sz)) 0 0 (va_A (kr_W1 cy h a th N L A) sz) := by
  refine kr_ofw (Qc := fun AA => va_Qi (fun r (_ : Unit) => kr_cd (kr_i N x) True True = 0 → r = A 4 (kr_ix x)) (fun _ t => kr_Rq D (kr_W1 cy h a (kr_cd (kr_i N x) True True) N L A) cy AA t) AA) (by decide) (Nat.le_of_ble_eq_true rfl) ?_
  intro p e s m below meth c ls AA hx hb hml hr hts hown hlocks hin hA hP hK hD hS hl
  have hown : s.vm.findClass RX1 = some m.cls := hown
  have hl : lv_has ls 2 [(0, .ref h), (1, .int x)] := hl
  refine lv_aload_n hx hb dX1_spillsInto_0 rfl (lv_at hl 0 rfl) ?_
  refine lv_iload_n hx hb dX1_spillsInto_1 rfl (lv_at hl 1 rfl) ?_
  refine lv_aload_n hx hb dX1_spillsInto_2 rfl (lv_at hl 0 rfl) ?_
  refine va_get (ci := 1) (v := .ref (a 4)) (C := RX1) (T := TX1) (N := 11) hx hb hts kr_wsX1 hown hK hP 0 rfl rfl 6 (by decide) (hts _ kq_548) (fun _ h9 => h9) rfl dX1_spillsInto_3 ?_
  refine kr_wvI (n := 2) (As := [.int x, .ref (a 4)]) (rest := []) ⟨hx, hb, hml, hown, hts⟩ (c_X1_of_4 l D cy h a th N L A s.heap.size x hw) kg_RX1_112 ⟨rfl, rfl⟩ (by decide +kernel) ⟨Nat.le_of_ble_eq_true rfl, Nat.le_of_ble_eq_true rfl⟩ (va_recv hK hP (ci := 1) (q0 := 0) rfl rfl) hP hK hD hS hA rfl hl.1 rfl (Nat.le_of_ble_eq_true rfl) dX1_spillsInto_6 ⟨Nat.le_of_ble_eq_true rfl, Nat.le_of_ble_eq_true rfl⟩ (fun r9 u9 H locs e9 hP hD hS => ?_)
  exact kr_wI hx hb hr hlocks hP hK hD hS e9 dX1_spillsInto_9
theorem kg_RX1_116 : GoodIn kr_all (wsV RX1 116 RX1 yX1_rank (Cond.code yX1_rank cX1_rank 4 (some .int) :: kr_all)) := kr_gV kq_694 kq_696 kq_35 kq_49 kq_697
set_option maxHeartbeats 4000000 in
set_option maxRecDepth 100000 in
theorem c_X1_rankOf (l : Launch) (D : va_G) (cy : ClassId) (h : Nat) (a : Nat → Nat) (th : Int32) (N L : Nat) (A : Nat → Nat → Int32) (sz : Nat) (x : Int32) (hw : kr_wf N L A) : Met l yX1_rankOf (Cond.code yX1_rankOf cX1_rankOf 2 (some .int) :: kr_all) ({ frames := 2, cells := 0, slots := 0, locals := 45 }) (va_Pc [.ref h, .int x] (kr_Rw D (kr_W1 cy h a th N L A) cy sz)) (va_Qi (fun r (_ : Unit) => kr_cd (kr_i N x) True True = 0 → r = nI (kr_rk A (kr_ix x) N)) (fun _ t => kr_Rq D (kr_W1 cy h a (kr_cd (kr_i N x) True True) N L A) cy (va_A (kr_W1 cy h a th N L A) sz) t) (va_A (kr_W1 cy h a th N L A) sz)) 0 0 (va_A (kr_W1 cy h a th N L A) sz) := by
  refine kr_ofw (Qc := fun AA => va_Qi (fun r (_ : Unit) => kr_cd (kr_i N x) True True = 0 → r = nI (kr_rk A (kr_ix x) N)) (fun _ t => kr_Rq D (kr_W1 cy h a (kr_cd (kr_i N x) True True) N L A) cy AA t) AA) (by decide) (Nat.le_of_ble_eq_true rfl) ?_
  intro p e s m below meth c ls AA hx hb hml hr hts hown hlocks hin hA hP hK hD hS hl
  have hown : s.vm.findClass RX1 = some m.cls := hown
  have hl : lv_has ls 2 [(0, .ref h), (1, .int x)] := hl
  have hN := hw.1
  refine lv_aload_n hx hb dX1_rankOf_0 rfl (lv_at hl 0 rfl) ?_
  refine lv_iconst (v := 0) hx hb dX1_rankOf_1 (by decide) ?_
  refine va_put (ci := 1) (v := .int 0) (ty := .int) (C := RX1) (T := TX1) (N := 11) hx hb hts kr_wsX1 tyX1 tyX1_ok nmX1 hown hK hP hD hS 0 rfl rfl 0 (by decide) (hts _ kq_542) (fun _ h9 => h9) rfl (by decide +kernel) rfl rfl (Nat.le_of_ble_eq_true rfl) dX1_rankOf_2 (fun H locs hP hD hS => ?_)
  have hP : va_P D vwCl (kr_W1 cy h a 0 N L A) H := hP
  have hD : va_D AA (kr_W1 cy h a 0 N L A) := hD
  refine lv_aload_n hx hb dX1_rankOf_5 rfl (lv_at hl 0 rfl) ?_
  refine lv_iload_n hx hb dX1_rankOf_6 rfl (lv_at hl 1 rfl) ?_
  refine kr_vI (n := 1) (As := [.int x]) (rest := []) ⟨hx, hb, hml, hown, hts⟩ (c_X1_isKnot l D cy h a 0 N L A x (by omega)) kg_RX1_91 ⟨rfl, rfl⟩ (by decide +kernel) ⟨Nat.le_of_ble_eq_true rfl, Nat.le_of_ble_eq_true rfl⟩ (kr_pv1 hP hK) rfl hl.1 rfl (Nat.le_of_ble_eq_true rfl) dX1_rankOf_7 ⟨Nat.zero_le _, Nat.zero_le _⟩ (fun r9 e9 => ?_)
  subst e9
  refine lv_if_eq (tgt := 21) hx hb dX1_rankOf_10 (by decide) (fun c10 => ?_) (fun c10 => ?_)
  · rw [kr_cd1 (kr_if0 c10)]
    refine lv_aload_n hx hb dX1_rankOf_21 rfl (lv_at hl 0 rfl) ?_
    refine lv_iconst (v := 1) hx hb dX1_rankOf_22 (by decide) ?_
    refine kr_wvI (n := 1) (As := [.int 1]) (rest := []) ⟨hx, hb, hml, hown, hts⟩ (c_X1_no l D cy h a 0 N L A H.size 1) kg_RX1_88 ⟨rfl, rfl⟩ (by decide +kernel) ⟨Nat.le_of_ble_eq_true rfl, Nat.le_of_ble_eq_true rfl⟩ (va_recv hK hP (ci := 1) (q0 := 0) rfl rfl) hP hK hD hS hA rfl hl.1 rfl (Nat.le_of_ble_eq_true rfl) dX1_rankOf_23 ⟨Nat.le_of_ble_eq_true rfl, Nat.le_of_ble_eq_true rfl⟩ (fun r9 u9 H locs e9 hP hD hS => ?_)
    subst e9
    exact kr_wI hx hb hr hlocks hP hK hD hS (fun z => absurd z (by decide)) dX1_rankOf_26
  · have hk := kr_if1 c10
    rw [kr_cd0 hk trivial trivial]
    obtain ⟨k, hk2, rfl⟩ := kr_inN hN hk
    refine lv_aload_n hx hb dX1_rankOf_13 rfl (lv_at hl 0 rfl) ?_
    refine lv_iload_n hx hb dX1_rankOf_14 rfl (lv_at hl 1 rfl) ?_
    refine kr_vI (n := 1) (As := [.int (nI k)]) (rest := []) ⟨hx, hb, hml, hown, hts⟩ (c_X1_rank l D cy h a 0 N L A k (by omega) (by omega)) kg_RX1_116 ⟨rfl, rfl⟩ (by decide +kernel) ⟨Nat.le_of_ble_eq_true rfl, Nat.le_of_ble_eq_true rfl⟩ (kr_pv1 hP hK) rfl hl.1 rfl (Nat.le_of_ble_eq_true rfl) dX1_rankOf_15 ⟨Nat.zero_le _, Nat.zero_le _⟩ (fun r9 e9 => ?_)
    subst e9
    refine lv_goto (tgt := 26) hx hb dX1_rankOf_18 (by decide) ?_
    exact kr_wI hx hb hr hlocks hP hK hD hS (fun _ => by rw [kr_ix_nI (by omega)]) dX1_rankOf_26
theorem kg_RX1_125 : GoodIn kr_all (wsV RX1 125 RX1 yX1_apart (Cond.code yX1_apart cX1_apart 4 (some .int) :: kr_all)) := kr_gV kq_726 kq_728 kq_39 kq_49 kq_729
set_option maxHeartbeats 4000000 in
set_option maxRecDepth 100000 in
theorem c_X1_fallsApartAt (l : Launch) (D : va_G) (cy : ClassId) (h : Nat) (a : Nat → Nat) (th : Int32) (N L : Nat) (A : Nat → Nat → Int32) (sz : Nat) (x : Int32) (hw : kr_wf N L A) : Met l yX1_fallsApartAt (Cond.code yX1_fallsApartAt cX1_fallsApartAt 2 (some .int) :: kr_all) ({ frames := 2, cells := 0, slots := 0, locals := 43 }) (va_Pc [.ref h, .int x] (kr_Rw D (kr_W1 cy h a th N L A) cy sz)) (va_Qi (fun r (_ : Unit) => kr_cd (kr_i N x) True True = 0 → r = kr_fa A 16 x 0) (fun _ t => kr_Rq D (kr_W1 cy h a (kr_cd (kr_i N x) True True) N L A) cy (va_A (kr_W1 cy h a th N L A) sz) t) (va_A (kr_W1 cy h a th N L A) sz)) 0 0 (va_A (kr_W1 cy h a th N L A) sz) := by
  refine kr_ofw (Qc := fun AA => va_Qi (fun r (_ : Unit) => kr_cd (kr_i N x) True True = 0 → r = kr_fa A 16 x 0) (fun _ t => kr_Rq D (kr_W1 cy h a (kr_cd (kr_i N x) True True) N L A) cy AA t) AA) (by decide) (Nat.le_of_ble_eq_true rfl) ?_
  intro p e s m below meth c ls AA hx hb hml hr hts hown hlocks hin hA hP hK hD hS hl
  have hown : s.vm.findClass RX1 = some m.cls := hown
  have hl : lv_has ls 2 [(0, .ref h), (1, .int x)] := hl
  have hN := hw.1
  refine lv_aload_n hx hb dX1_fallsApartAt_0 rfl (lv_at hl 0 rfl) ?_
  refine lv_iconst (v := 0) hx hb dX1_fallsApartAt_1 (by decide) ?_
  refine va_put (ci := 1) (v := .int 0) (ty := .int) (C := RX1) (T := TX1) (N := 11) hx hb hts kr_wsX1 tyX1 tyX1_ok nmX1 hown hK hP hD hS 0 rfl rfl 0 (by decide) (hts _ kq_542) (fun _ h9 => h9) rfl (by decide +kernel) rfl rfl (Nat.le_of_ble_eq_true rfl) dX1_fallsApartAt_2 (fun H locs hP hD hS => ?_)
  have hP : va_P D vwCl (kr_W1 cy h a 0 N L A) H := hP
  have hD : va_D AA (kr_W1 cy h a 0 N L A) := hD
  refine lv_aload_n hx hb dX1_fallsApartAt_5 rfl (lv_at hl 0 rfl) ?_
  refine lv_iload_n hx hb dX1_fallsApartAt_6 rfl (lv_at hl 1 rfl) ?_
  refine kr_vI (n := 1) (As := [.int x]) (rest := []) ⟨hx, hb, hml, hown, hts⟩ (c_X1_isKnot l D cy h a 0 N L A x (by omega)) kg_RX1_91 ⟨rfl, rfl⟩ (by decide +kernel) ⟨Nat.le_of_ble_eq_true rfl, Nat.le_of_ble_eq_true rfl⟩ (kr_pv1 hP hK) rfl hl.1 rfl (Nat.le_of_ble_eq_true rfl) dX1_fallsApartAt_7 ⟨Nat.zero_le _, Nat.zero_le _⟩ (fun r9 e9 => ?_)
  subst e9
  refine lv_if_eq (tgt := 21) hx hb dX1_fallsApartAt_10 (by decide) (fun c10 => ?_) (fun c10 => ?_)
  · rw [kr_cd1 (kr_if0 c10)]
    refine lv_aload_n hx hb dX1_fallsApartAt_21 rfl (lv_at hl 0 rfl) ?_
    refine lv_iconst (v := 1) hx hb dX1_fallsApartAt_22 (by decide) ?_
    refine kr_wvI (n := 1) (As := [.int 1]) (rest := []) ⟨hx, hb, hml, hown, hts⟩ (c_X1_no l D cy h a 0 N L A H.size 1) kg_RX1_88 ⟨rfl, rfl⟩ (by decide +kernel) ⟨Nat.le_of_ble_eq_true rfl, Nat.le_of_ble_eq_true rfl⟩ (va_recv hK hP (ci := 1) (q0 := 0) rfl rfl) hP hK hD hS hA rfl hl.1 rfl (Nat.le_of_ble_eq_true rfl) dX1_fallsApartAt_23 ⟨Nat.le_of_ble_eq_true rfl, Nat.le_of_ble_eq_true rfl⟩ (fun r9 u9 H locs e9 hP hD hS => ?_)
    subst e9
    exact kr_wI hx hb hr hlocks hP hK hD hS (fun z => absurd z (by decide)) dX1_fallsApartAt_26
  · have hk := kr_if1 c10
    rw [kr_cd0 hk trivial trivial]
    obtain ⟨k, hk2, rfl⟩ := kr_inN hN hk
    refine lv_aload_n hx hb dX1_fallsApartAt_13 rfl (lv_at hl 0 rfl) ?_
    refine lv_iload_n hx hb dX1_fallsApartAt_14 rfl (lv_at hl 1 rfl) ?_
    refine kr_vI (n := 1) (As := [.int (nI k)]) (rest := []) ⟨hx, hb, hml, hown, hts⟩ (c_X1_apart l D cy h a 0 N L A k hw (by omega)) kg_RX1_125 ⟨rfl, rfl⟩ (by decide +kernel) ⟨Nat.le_of_ble_eq_true rfl, Nat.le_of_ble_eq_true rfl⟩ (kr_pv1 hP hK) rfl hl.1 rfl (Nat.le_of_ble_eq_true rfl) dX1_fallsApartAt_15 ⟨Nat.zero_le _, Nat.zero_le _⟩ (fun r9 e9 => ?_)
    subst e9
    refine lv_goto (tgt := 26) hx hb dX1_fallsApartAt_18 (by decide) ?_
    exact kr_wI hx hb hr hlocks hP hK hD hS (fun _ => rfl) dX1_fallsApartAt_26
set_option maxHeartbeats 4000000 in
set_option maxRecDepth 100000 in
theorem c_X1_ropesOf (l : Launch) (D : va_G) (cy : ClassId) (h : Nat) (a : Nat → Nat) (th : Int32) (N L : Nat) (A : Nat → Nat → Int32) (sz : Nat) (x : Int32) (hw : kr_wf N L A) : Met l yX1_ropesOf (Cond.code yX1_ropesOf cX1_ropesOf 2 (some .int) :: kr_all) ({ frames := 2, cells := 0, slots := 0, locals := 43 }) (va_Pc [.ref h, .int x] (kr_Rw D (kr_W1 cy h a th N L A) cy sz)) (va_Qi (fun r (_ : Unit) => kr_cd (kr_i L x) True True = 0 → r = A 5 (kr_ix x)) (fun _ t => kr_Rq D (kr_W1 cy h a (kr_cd (kr_i L x) True True) N L A) cy (va_A (kr_W1 cy h a th N L A) sz) t) (va_A (kr_W1 cy h a th N L A) sz)) 0 0 (va_A (kr_W1 cy h a th N L A) sz) := by
  refine kr_ofw (Qc := fun AA => va_Qi (fun r (_ : Unit) => kr_cd (kr_i L x) True True = 0 → r = A 5 (kr_ix x)) (fun _ t => kr_Rq D (kr_W1 cy h a (kr_cd (kr_i L x) True True) N L A) cy AA t) AA) (by decide) (Nat.le_of_ble_eq_true rfl) ?_
  intro p e s m below meth c ls AA hx hb hml hr hts hown hlocks hin hA hP hK hD hS hl
  have hown : s.vm.findClass RX1 = some m.cls := hown
  have hl : lv_has ls 2 [(0, .ref h), (1, .int x)] := hl
  have hL := hw.2.1
  refine lv_aload_n hx hb dX1_ropesOf_0 rfl (lv_at hl 0 rfl) ?_
  refine lv_iconst (v := 0) hx hb dX1_ropesOf_1 (by decide) ?_
  refine va_put (ci := 1) (v := .int 0) (ty := .int) (C := RX1) (T := TX1) (N := 11) hx hb hts kr_wsX1 tyX1 tyX1_ok nmX1 hown hK hP hD hS 0 rfl rfl 0 (by decide) (hts _ kq_542) (fun _ h9 => h9) rfl (by decide +kernel) rfl rfl (Nat.le_of_ble_eq_true rfl) dX1_ropesOf_2 (fun H locs hP hD hS => ?_)
  have hP : va_P D vwCl (kr_W1 cy h a 0 N L A) H := hP
  have hD : va_D AA (kr_W1 cy h a 0 N L A) := hD
  refine lv_aload_n hx hb dX1_ropesOf_5 rfl (lv_at hl 0 rfl) ?_
  refine lv_iload_n hx hb dX1_ropesOf_6 rfl (lv_at hl 1 rfl) ?_
  refine kr_vI (n := 1) (As := [.int x]) (rest := []) ⟨hx, hb, hml, hown, hts⟩ (c_X1_isLine l D cy h a 0 N L A x (by omega)) kg_RX1_48 ⟨rfl, rfl⟩ (by decide +kernel) ⟨Nat.le_of_ble_eq_true rfl, Nat.le_of_ble_eq_true rfl⟩ (kr_pv1 hP hK) rfl hl.1 rfl (Nat.le_of_ble_eq_true rfl) dX1_ropesOf_7 ⟨Nat.zero_le _, Nat.zero_le _⟩ (fun r9 e9 => ?_)
  subst e9
  refine lv_if_eq (tgt := 22) hx hb dX1_ropesOf_10 (by decide) (fun c10 => ?_) (fun c10 => ?_)
  · rw [kr_cd1 (kr_if0 c10)]
    refine lv_aload_n hx hb dX1_ropesOf_22 rfl (lv_at hl 0 rfl) ?_
    refine lv_iconst (v := 1) hx hb dX1_ropesOf_23 (by decide) ?_
    refine kr_wvI (n := 1) (As := [.int 1]) (rest := []) ⟨hx, hb, hml, hown, hts⟩ (c_X1_no l D cy h a 0 N L A H.size 1) kg_RX1_88 ⟨rfl, rfl⟩ (by decide +kernel) ⟨Nat.le_of_ble_eq_true rfl, Nat.le_of_ble_eq_true rfl⟩ (va_recv hK hP (ci := 1) (q0 := 0) rfl rfl) hP hK hD hS hA rfl hl.1 rfl (Nat.le_of_ble_eq_true rfl) dX1_ropesOf_24 ⟨Nat.le_of_ble_eq_true rfl, Nat.le_of_ble_eq_true rfl⟩ (fun r9 u9 H locs e9 hP hD hS => ?_)
    subst e9
    exact kr_wI hx hb hr hlocks hP hK hD hS (fun z => absurd z (by decide)) dX1_ropesOf_27
  · have hk := kr_if1 c10
    rw [kr_cd0 hk trivial trivial]
    obtain ⟨q, hq, rfl⟩ := kr_inL hL hk
    refine lv_aload_n hx hb dX1_ropesOf_13 rfl (lv_at hl 0 rfl) ?_
    refine va_get (ci := 1) (v := .ref (a 5)) (C := RX1) (T := TX1) (N := 11) hx hb hts kr_wsX1 hown hK hP 0 rfl rfl 8 (by decide) (hts _ kq_550) (fun _ h9 => h9) rfl dX1_ropesOf_14 ?_
    refine lv_iload_n hx hb dX1_ropesOf_17 rfl (lv_at hl 1 rfl) ?_
    refine kr_ald hx hb hK hP 6 0 rfl rfl q (by omega) (by decide) dX1_ropesOf_18 ?_
    refine lv_goto (tgt := 27) hx hb dX1_ropesOf_19 (by decide) ?_
    exact kr_wI hx hb hr hlocks hP hK hD hS (fun _ => by rw [kr_ix_nI (by omega)]) dX1_ropesOf_27
theorem kg_RX1_128 : GoodIn kr_all (wsV RX1 128 RX1 yX1_weakest (Cond.code yX1_weakest cX1_weakest 4 (some .int) :: kr_all)) := kr_gV kq_755 kq_757 kq_41 kq_49 kq_758
set_option maxHeartbeats 4000000 in
set_option maxRecDepth 100000 in
theorem c_X1_weakestPlace (l : Launch) (D : va_G) (cy : ClassId) (h : Nat) (a : Nat → Nat) (th : Int32) (N L : Nat) (A : Nat → Nat → Int32) (sz : Nat) (x : Int32) (hw : kr_wf N L A) : Met l yX1_weakestPlace (Cond.code yX1_weakestPlace cX1_weakestPlace 2 (some .int) :: kr_all) ({ frames := 4, cells := 0, slots := 0, locals := 82 }) (va_Pc [.ref h, .int x] (kr_Rw D (kr_W1 cy h a th N L A) cy sz)) (va_Qi (fun r (_ : Unit) => kr_cd (kr_i L x) True True = 0 → r = kr_wk A (kr_ix x) (kr_rc A (kr_ix x)) 0 (-1)) (fun _ t => kr_Rq D (kr_W1 cy h a (kr_cd (kr_i L x) True True) N L A) cy (va_A (kr_W1 cy h a th N L A) sz) t) (va_A (kr_W1 cy h a th N L A) sz)) 0 0 (va_A (kr_W1 cy h a th N L A) sz) := by
  refine kr_ofw (Qc := fun AA => va_Qi (fun r (_ : Unit) => kr_cd (kr_i L x) True True = 0 → r = kr_wk A (kr_ix x) (kr_rc A (kr_ix x)) 0 (-1)) (fun _ t => kr_Rq D (kr_W1 cy h a (kr_cd (kr_i L x) True True) N L A) cy AA t) AA) (by decide) (Nat.le_of_ble_eq_true rfl) ?_
  intro p e s m below meth c ls AA hx hb hml hr hts hown hlocks hin hA hP hK hD hS hl
  have hown : s.vm.findClass RX1 = some m.cls := hown
  have hl : lv_has ls 2 [(0, .ref h), (1, .int x)] := hl
  have hL := hw.2.1
  refine lv_aload_n hx hb dX1_weakestPlace_0 rfl (lv_at hl 0 rfl) ?_
  refine lv_iconst (v := 0) hx hb dX1_weakestPlace_1 (by decide) ?_
  refine va_put (ci := 1) (v := .int 0) (ty := .int) (C := RX1) (T := TX1) (N := 11) hx hb hts kr_wsX1 tyX1 tyX1_ok nmX1 hown hK hP hD hS 0 rfl rfl 0 (by decide) (hts _ kq_542) (fun _ h9 => h9) rfl (by decide +kernel) rfl rfl (Nat.le_of_ble_eq_true rfl) dX1_weakestPlace_2 (fun H locs hP hD hS => ?_)
  have hP : va_P D vwCl (kr_W1 cy h a 0 N L A) H := hP
  have hD : va_D AA (kr_W1 cy h a 0 N L A) := hD
  refine lv_aload_n hx hb dX1_weakestPlace_5 rfl (lv_at hl 0 rfl) ?_
  refine lv_iload_n hx hb dX1_weakestPlace_6 rfl (lv_at hl 1 rfl) ?_
  refine kr_vI (n := 1) (As := [.int x]) (rest := []) ⟨hx, hb, hml, hown, hts⟩ (c_X1_isLine l D cy h a 0 N L A x (by omega)) kg_RX1_48 ⟨rfl, rfl⟩ (by decide +kernel) ⟨Nat.le_of_ble_eq_true rfl, Nat.le_of_ble_eq_true rfl⟩ (kr_pv1 hP hK) rfl hl.1 rfl (Nat.le_of_ble_eq_true rfl) dX1_weakestPlace_7 ⟨Nat.zero_le _, Nat.zero_le _⟩ (fun r9 e9 => ?_)
  subst e9
  refine lv_if_eq (tgt := 21) hx hb dX1_weakestPlace_10 (by decide) (fun c10 => ?_) (fun c10 => ?_)
  · rw [kr_cd1 (kr_if0 c10)]
    refine lv_aload_n hx hb dX1_weakestPlace_21 rfl (lv_at hl 0 rfl) ?_
    refine lv_iconst (v := 1) hx hb dX1_weakestPlace_22 (by decide) ?_
    refine kr_wvI (n := 1) (As := [.int 1]) (rest := []) ⟨hx, hb, hml, hown, hts⟩ (c_X1_no l D cy h a 0 N L A H.size 1) kg_RX1_88 ⟨rfl, rfl⟩ (by decide +kernel) ⟨Nat.le_of_ble_eq_true rfl, Nat.le_of_ble_eq_true rfl⟩ (va_recv hK hP (ci := 1) (q0 := 0) rfl rfl) hP hK hD hS hA rfl hl.1 rfl (Nat.le_of_ble_eq_true rfl) dX1_weakestPlace_23 ⟨Nat.le_of_ble_eq_true rfl, Nat.le_of_ble_eq_true rfl⟩ (fun r9 u9 H locs e9 hP hD hS => ?_)
    subst e9
    exact kr_wI hx hb hr hlocks hP hK hD hS (fun z => absurd z (by decide)) dX1_weakestPlace_26
  · have hk := kr_if1 c10
    rw [kr_cd0 hk trivial trivial]
    obtain ⟨q, hq, rfl⟩ := kr_inL hL hk
    refine lv_aload_n hx hb dX1_weakestPlace_13 rfl (lv_at hl 0 rfl) ?_
    refine lv_iload_n hx hb dX1_weakestPlace_14 rfl (lv_at hl 1 rfl) ?_
    refine kr_vI (n := 1) (As := [.int (nI q)]) (rest := []) ⟨hx, hb, hml, hown, hts⟩ (c_X1_weakest l D cy h a 0 N L A q hw (by omega)) kg_RX1_128 ⟨rfl, rfl⟩ (by decide +kernel) ⟨Nat.le_of_ble_eq_true rfl, Nat.le_of_ble_eq_true rfl⟩ (kr_pv1 hP hK) rfl hl.1 rfl (Nat.le_of_ble_eq_true rfl) dX1_weakestPlace_15 ⟨Nat.zero_le _, Nat.zero_le _⟩ (fun r9 e9 => ?_)
    subst e9
    refine lv_goto (tgt := 26) hx hb dX1_weakestPlace_18 (by decide) ?_
    exact kr_wI hx hb hr hlocks hP hK hD hS (fun _ => by rw [kr_ix_nI (by omega)]) dX1_weakestPlace_26
set_option maxHeartbeats 4000000 in
set_option maxRecDepth 100000 in
theorem c_X1_holdsUpTo (l : Launch) (D : va_G) (cy : ClassId) (h : Nat) (a : Nat → Nat) (th : Int32) (N L : Nat) (A : Nat → Nat → Int32) (sz : Nat) (x : Int32) (hw : kr_wf N L A) : Met l yX1_holdsUpTo (Cond.code yX1_holdsUpTo cX1_holdsUpTo 2 (some .int) :: kr_all) ({ frames := 4, cells := 0, slots := 0, locals := 86 }) (va_Pc [.ref h, .int x] (kr_Rw D (kr_W1 cy h a th N L A) cy sz)) (va_Qi (fun r (_ : Unit) => kr_cd (kr_i L x) True True = 0 → r = kr_hu A (kr_ix x)) (fun _ t => kr_Rq D (kr_W1 cy h a (kr_cd (kr_i L x) True True) N L A) cy (va_A (kr_W1 cy h a th N L A) sz) t) (va_A (kr_W1 cy h a th N L A) sz)) 0 0 (va_A (kr_W1 cy h a th N L A) sz) := by
  refine kr_ofw (Qc := fun AA => va_Qi (fun r (_ : Unit) => kr_cd (kr_i L x) True True = 0 → r = kr_hu A (kr_ix x)) (fun _ t => kr_Rq D (kr_W1 cy h a (kr_cd (kr_i L x) True True) N L A) cy AA t) AA) (by decide) (Nat.le_of_ble_eq_true rfl) ?_
  intro p e s m below meth c ls AA hx hb hml hr hts hown hlocks hin hA hP hK hD hS hl
  have hown : s.vm.findClass RX1 = some m.cls := hown
  have hl : lv_has ls 2 [(0, .ref h), (1, .int x)] := hl
  have hL := hw.2.1
  refine lv_aload_n hx hb dX1_holdsUpTo_0 rfl (lv_at hl 0 rfl) ?_
  refine lv_iconst (v := 0) hx hb dX1_holdsUpTo_1 (by decide) ?_
  refine va_put (ci := 1) (v := .int 0) (ty := .int) (C := RX1) (T := TX1) (N := 11) hx hb hts kr_wsX1 tyX1 tyX1_ok nmX1 hown hK hP hD hS 0 rfl rfl 0 (by decide) (hts _ kq_542) (fun _ h9 => h9) rfl (by decide +kernel) rfl rfl (Nat.le_of_ble_eq_true rfl) dX1_holdsUpTo_2 (fun H locs hP hD hS => ?_)
  have hP : va_P D vwCl (kr_W1 cy h a 0 N L A) H := hP
  have hD : va_D AA (kr_W1 cy h a 0 N L A) := hD
  refine lv_aload_n hx hb dX1_holdsUpTo_5 rfl (lv_at hl 0 rfl) ?_
  refine lv_iload_n hx hb dX1_holdsUpTo_6 rfl (lv_at hl 1 rfl) ?_
  refine kr_vI (n := 1) (As := [.int x]) (rest := []) ⟨hx, hb, hml, hown, hts⟩ (c_X1_isLine l D cy h a 0 N L A x (by omega)) kg_RX1_48 ⟨rfl, rfl⟩ (by decide +kernel) ⟨Nat.le_of_ble_eq_true rfl, Nat.le_of_ble_eq_true rfl⟩ (kr_pv1 hP hK) rfl hl.1 rfl (Nat.le_of_ble_eq_true rfl) dX1_holdsUpTo_7 ⟨Nat.zero_le _, Nat.zero_le _⟩ (fun r9 e9 => ?_)
  subst e9
  refine lv_if_eq (tgt := 21) hx hb dX1_holdsUpTo_10 (by decide) (fun c10 => ?_) (fun c10 => ?_)
  · rw [kr_cd1 (kr_if0 c10)]
    refine lv_aload_n hx hb dX1_holdsUpTo_21 rfl (lv_at hl 0 rfl) ?_
    refine lv_iconst (v := 1) hx hb dX1_holdsUpTo_22 (by decide) ?_
    refine kr_wvI (n := 1) (As := [.int 1]) (rest := []) ⟨hx, hb, hml, hown, hts⟩ (c_X1_no l D cy h a 0 N L A H.size 1) kg_RX1_88 ⟨rfl, rfl⟩ (by decide +kernel) ⟨Nat.le_of_ble_eq_true rfl, Nat.le_of_ble_eq_true rfl⟩ (va_recv hK hP (ci := 1) (q0 := 0) rfl rfl) hP hK hD hS hA rfl hl.1 rfl (Nat.le_of_ble_eq_true rfl) dX1_holdsUpTo_23 ⟨Nat.le_of_ble_eq_true rfl, Nat.le_of_ble_eq_true rfl⟩ (fun r9 u9 H locs e9 hP hD hS => ?_)
    subst e9
    exact kr_wI hx hb hr hlocks hP hK hD hS (fun z => absurd z (by decide)) dX1_holdsUpTo_26
  · have hk := kr_if1 c10
    rw [kr_cd0 hk trivial trivial]
    obtain ⟨q, hq, rfl⟩ := kr_inL hL hk
    refine lv_aload_n hx hb dX1_holdsUpTo_13 rfl (lv_at hl 0 rfl) ?_
    refine lv_iload_n hx hb dX1_holdsUpTo_14 rfl (lv_at hl 1 rfl) ?_
    refine kr_vI (n := 1) (As := [.int (nI q)]) (rest := []) ⟨hx, hb, hml, hown, hts⟩ (c_X1_upTo l D cy h a 0 N L A q hw (by omega)) kg_RX1_84 ⟨rfl, rfl⟩ (by decide +kernel) ⟨Nat.le_of_ble_eq_true rfl, Nat.le_of_ble_eq_true rfl⟩ (kr_pv1 hP hK) rfl hl.1 rfl (Nat.le_of_ble_eq_true rfl) dX1_holdsUpTo_15 ⟨Nat.zero_le _, Nat.zero_le _⟩ (fun r9 e9 => ?_)
    subst e9
    refine lv_goto (tgt := 26) hx hb dX1_holdsUpTo_18 (by decide) ?_
    exact kr_wI hx hb hr hlocks hP hK hD hS (fun _ => by rw [kr_ix_nI (by omega)]) dX1_holdsUpTo_26
theorem kg_RX1_97 : GoodIn kr_all (wsV RX1 97 RX1 yX1_isPlace (Cond.code yX1_isPlace cX1_isPlace 3 (some .boolean) :: kr_all)) := kr_gV kq_618 kq_620 kq_26 kq_49 kq_621
set_option maxHeartbeats 4000000 in
set_option maxRecDepth 100000 in
theorem c_X1_knotOf (l : Launch) (D : va_G) (cy : ClassId) (h : Nat) (a : Nat → Nat) (th : Int32) (N L : Nat) (A : Nat → Nat → Int32) (sz : Nat) (x y : Int32) (hw : kr_wf N L A) : Met l yX1_knotOf (Cond.code yX1_knotOf cX1_knotOf 3 (some .int) :: kr_all) ({ frames := 3, cells := 0, slots := 0, locals := 65 }) (va_Pc [.ref h, .int x, .int y] (kr_Rw D (kr_W1 cy h a th N L A) cy sz)) (va_Qi (fun r (_ : Unit) => kr_cd (kr_q L A x y) True True = 0 → r = A 6 (5 * kr_ix x + kr_ix y)) (fun _ t => kr_Rq D (kr_W1 cy h a (kr_cd (kr_q L A x y) True True) N L A) cy (va_A (kr_W1 cy h a th N L A) sz) t) (va_A (kr_W1 cy h a th N L A) sz)) 0 0 (va_A (kr_W1 cy h a th N L A) sz) := by
  refine kr_ofw (Qc := fun AA => va_Qi (fun r (_ : Unit) => kr_cd (kr_q L A x y) True True = 0 → r = A 6 (5 * kr_ix x + kr_ix y)) (fun _ t => kr_Rq D (kr_W1 cy h a (kr_cd (kr_q L A x y) True True) N L A) cy AA t) AA) (by decide) (Nat.le_of_ble_eq_true rfl) ?_
  intro p e s m below meth c ls AA hx hb hml hr hts hown hlocks hin hA hP hK hD hS hl
  have hown : s.vm.findClass RX1 = some m.cls := hown
  have hl : lv_has ls 3 [(0, .ref h), (1, .int x), (2, .int y)] := hl
  have hL := hw.2.1
  refine lv_aload_n hx hb dX1_knotOf_0 rfl (lv_at hl 0 rfl) ?_
  refine lv_iconst (v := 0) hx hb dX1_knotOf_1 (by decide) ?_
  refine va_put (ci := 1) (v := .int 0) (ty := .int) (C := RX1) (T := TX1) (N := 11) hx hb hts kr_wsX1 tyX1 tyX1_ok nmX1 hown hK hP hD hS 0 rfl rfl 0 (by decide) (hts _ kq_542) (fun _ h9 => h9) rfl (by decide +kernel) rfl rfl (Nat.le_of_ble_eq_true rfl) dX1_knotOf_2 (fun H locs hP hD hS => ?_)
  have hP : va_P D vwCl (kr_W1 cy h a 0 N L A) H := hP
  have hD : va_D AA (kr_W1 cy h a 0 N L A) := hD
  refine lv_aload_n hx hb dX1_knotOf_5 rfl (lv_at hl 0 rfl) ?_
  refine lv_iload_n hx hb dX1_knotOf_6 rfl (lv_at hl 1 rfl) ?_
  refine lv_iload_n hx hb dX1_knotOf_7 rfl (lv_at hl 2 rfl) ?_
  refine kr_vI (n := 2) (As := [.int x, .int y]) (rest := []) ⟨hx, hb, hml, hown, hts⟩ (c_X1_isPlace l D cy h a 0 N L A x y hw) kg_RX1_97 ⟨rfl, rfl⟩ (by decide +kernel) ⟨Nat.le_of_ble_eq_true rfl, Nat.le_of_ble_eq_true rfl⟩ (kr_pv1 hP hK) rfl hl.1 rfl (Nat.le_of_ble_eq_true rfl) dX1_knotOf_8 ⟨Nat.zero_le _, Nat.zero_le _⟩ (fun r9 e9 => ?_)
  subst e9
  refine lv_if_eq (tgt := 27) hx hb dX1_knotOf_11 (by decide) (fun c11 => ?_) (fun c11 => ?_)
  · rw [kr_cd1 (kr_if0 c11)]
    refine lv_aload_n hx hb dX1_knotOf_27 rfl (lv_at hl 0 rfl) ?_
    refine lv_iconst (v := 1) hx hb dX1_knotOf_28 (by decide) ?_
    refine kr_wvI (n := 1) (As := [.int 1]) (rest := []) ⟨hx, hb, hml, hown, hts⟩ (c_X1_no l D cy h a 0 N L A H.size 1) kg_RX1_88 ⟨rfl, rfl⟩ (by decide +kernel) ⟨Nat.le_of_ble_eq_true rfl, Nat.le_of_ble_eq_true rfl⟩ (va_recv hK hP (ci := 1) (q0 := 0) rfl rfl) hP hK hD hS hA rfl hl.1 rfl (Nat.le_of_ble_eq_true rfl) dX1_knotOf_29 ⟨Nat.le_of_ble_eq_true rfl, Nat.le_of_ble_eq_true rfl⟩ (fun r9 u9 H locs e9 hP hD hS => ?_)
    subst e9
    exact kr_wI hx hb hr hlocks hP hK hD hS (fun z => absurd z (by decide)) dX1_knotOf_32
  · have hk := kr_if1 c11
    rw [kr_cd0 hk trivial trivial]
    obtain ⟨q, pl, hq, hp, rfl, rfl⟩ := kr_inP hw hk
    obtain ⟨hrc, er⟩ := hw.rc hq
    refine lv_aload_n hx hb dX1_knotOf_14 rfl (lv_at hl 0 rfl) ?_
    refine va_get (ci := 1) (v := .ref (a 6)) (C := RX1) (T := TX1) (N := 11) hx hb hts kr_wsX1 hown hK hP 0 rfl rfl 10 (by decide) (hts _ kq_552) (fun _ h9 => h9) rfl dX1_knotOf_15 ?_
    refine lv_iconst (v := 5) hx hb dX1_knotOf_18 (by decide) ?_
    refine lv_iload_n hx hb dX1_knotOf_19 rfl (lv_at hl 1 rfl) ?_
    refine kr_imulN hx hb 5 q dX1_knotOf_20 ?_
    refine lv_iload_n hx hb dX1_knotOf_21 rfl (lv_at hl 2 rfl) ?_
    refine kr_iaddN hx hb (5 * q) pl dX1_knotOf_22 ?_
    refine kr_ald hx hb hK hP 7 0 rfl rfl ((5 * q) + pl) (by omega) (by decide) dX1_knotOf_23 ?_
    refine lv_goto (tgt := 32) hx hb dX1_knotOf_24 (by decide) ?_
    exact kr_wI hx hb hr hlocks hP hK hD hS (fun _ => by rw [kr_ix_nI (by omega), kr_ix_nI (by omega)]) dX1_knotOf_32
set_option maxHeartbeats 4000000 in
set_option maxRecDepth 100000 in
theorem c_X1_strengthAt (l : Launch) (D : va_G) (cy : ClassId) (h : Nat) (a : Nat → Nat) (th : Int32) (N L : Nat) (A : Nat → Nat → Int32) (sz : Nat) (x y : Int32) (hw : kr_wf N L A) : Met l yX1_strengthAt (Cond.code yX1_strengthAt cX1_strengthAt 3 (some .int) :: kr_all) ({ frames := 3, cells := 0, slots := 0, locals := 65 }) (va_Pc [.ref h, .int x, .int y] (kr_Rw D (kr_W1 cy h a th N L A) cy sz)) (va_Qi (fun r (_ : Unit) => kr_cd (kr_q L A x y) True True = 0 → r = kr_nw A (kr_ix x) (kr_ix y)) (fun _ t => kr_Rq D (kr_W1 cy h a (kr_cd (kr_q L A x y) True True) N L A) cy (va_A (kr_W1 cy h a th N L A) sz) t) (va_A (kr_W1 cy h a th N L A) sz)) 0 0 (va_A (kr_W1 cy h a th N L A) sz) := by
  refine kr_ofw (Qc := fun AA => va_Qi (fun r (_ : Unit) => kr_cd (kr_q L A x y) True True = 0 → r = kr_nw A (kr_ix x) (kr_ix y)) (fun _ t => kr_Rq D (kr_W1 cy h a (kr_cd (kr_q L A x y) True True) N L A) cy AA t) AA) (by decide) (Nat.le_of_ble_eq_true rfl) ?_
  intro p e s m below meth c ls AA hx hb hml hr hts hown hlocks hin hA hP hK hD hS hl
  have hown : s.vm.findClass RX1 = some m.cls := hown
  have hl : lv_has ls 3 [(0, .ref h), (1, .int x), (2, .int y)] := hl
  have hL := hw.2.1
  refine lv_aload_n hx hb dX1_strengthAt_0 rfl (lv_at hl 0 rfl) ?_
  refine lv_iconst (v := 0) hx hb dX1_strengthAt_1 (by decide) ?_
  refine va_put (ci := 1) (v := .int 0) (ty := .int) (C := RX1) (T := TX1) (N := 11) hx hb hts kr_wsX1 tyX1 tyX1_ok nmX1 hown hK hP hD hS 0 rfl rfl 0 (by decide) (hts _ kq_542) (fun _ h9 => h9) rfl (by decide +kernel) rfl rfl (Nat.le_of_ble_eq_true rfl) dX1_strengthAt_2 (fun H locs hP hD hS => ?_)
  have hP : va_P D vwCl (kr_W1 cy h a 0 N L A) H := hP
  have hD : va_D AA (kr_W1 cy h a 0 N L A) := hD
  refine lv_aload_n hx hb dX1_strengthAt_5 rfl (lv_at hl 0 rfl) ?_
  refine lv_iload_n hx hb dX1_strengthAt_6 rfl (lv_at hl 1 rfl) ?_
  refine lv_iload_n hx hb dX1_strengthAt_7 rfl (lv_at hl 2 rfl) ?_
  refine kr_vI (n := 2) (As := [.int x, .int y]) (rest := []) ⟨hx, hb, hml, hown, hts⟩ (c_X1_isPlace l D cy h a 0 N L A x y hw) kg_RX1_97 ⟨rfl, rfl⟩ (by decide +kernel) ⟨Nat.le_of_ble_eq_true rfl, Nat.le_of_ble_eq_true rfl⟩ (kr_pv1 hP hK) rfl hl.1 rfl (Nat.le_of_ble_eq_true rfl) dX1_strengthAt_8 ⟨Nat.zero_le _, Nat.zero_le _⟩ (fun r9 e9 => ?_)
  subst e9
  refine lv_if_eq (tgt := 23) hx hb dX1_strengthAt_11 (by decide) (fun c11 => ?_) (fun c11 => ?_)
  · rw [kr_cd1 (kr_if0 c11)]
    refine lv_aload_n hx hb dX1_strengthAt_23 rfl (lv_at hl 0 rfl) ?_
    refine lv_iconst (v := 1) hx hb dX1_strengthAt_24 (by decide) ?_
    refine kr_wvI (n := 1) (As := [.int 1]) (rest := []) ⟨hx, hb, hml, hown, hts⟩ (c_X1_no l D cy h a 0 N L A H.size 1) kg_RX1_88 ⟨rfl, rfl⟩ (by decide +kernel) ⟨Nat.le_of_ble_eq_true rfl, Nat.le_of_ble_eq_true rfl⟩ (va_recv hK hP (ci := 1) (q0 := 0) rfl rfl) hP hK hD hS hA rfl hl.1 rfl (Nat.le_of_ble_eq_true rfl) dX1_strengthAt_25 ⟨Nat.le_of_ble_eq_true rfl, Nat.le_of_ble_eq_true rfl⟩ (fun r9 u9 H locs e9 hP hD hS => ?_)
    subst e9
    exact kr_wI hx hb hr hlocks hP hK hD hS (fun z => absurd z (by decide)) dX1_strengthAt_28
  · have hk := kr_if1 c11
    rw [kr_cd0 hk trivial trivial]
    obtain ⟨q, pl, hq, hp, rfl, rfl⟩ := kr_inP hw hk
    obtain ⟨hrc, er⟩ := hw.rc hq
    refine lv_aload_n hx hb dX1_strengthAt_14 rfl (lv_at hl 0 rfl) ?_
    refine lv_iload_n hx hb dX1_strengthAt_15 rfl (lv_at hl 1 rfl) ?_
    refine lv_iload_n hx hb dX1_strengthAt_16 rfl (lv_at hl 2 rfl) ?_
    refine kr_vI (n := 2) (As := [.int (nI q), .int (nI pl)]) (rest := []) ⟨hx, hb, hml, hown, hts⟩ (c_X1_now l D cy h a 0 N L A q pl hw (by omega) (by omega)) kg_RX1_81 ⟨rfl, rfl⟩ (by decide +kernel) ⟨Nat.le_of_ble_eq_true rfl, Nat.le_of_ble_eq_true rfl⟩ (kr_pv1 hP hK) rfl hl.1 rfl (Nat.le_of_ble_eq_true rfl) dX1_strengthAt_17 ⟨Nat.zero_le _, Nat.zero_le _⟩ (fun r9 e9 => ?_)
    subst e9
    refine lv_goto (tgt := 28) hx hb dX1_strengthAt_20 (by decide) ?_
    exact kr_wI hx hb hr hlocks hP hK hD hS (fun _ => by rw [kr_ix_nI (by omega), kr_ix_nI (by omega)]) dX1_strengthAt_28
theorem kg_RX1_109 : GoodIn kr_all (wsV RX1 109 RX1 yX1_many (Cond.code yX1_many cX1_many 4 (some .int) :: kr_all)) := kr_gV kq_662 kq_664 kq_33 kq_49 kq_665
set_option maxHeartbeats 4000000 in
set_option maxRecDepth 100000 in
theorem c_X1_knotsOf (l : Launch) (D : va_G) (cy : ClassId) (h : Nat) (a : Nat → Nat) (th : Int32) (N L : Nat) (A : Nat → Nat → Int32) (sz : Nat) (x : Int32) (hw : kr_wf N L A) : Met l yX1_knotsOf (Cond.code yX1_knotsOf cX1_knotsOf 2 (some .int) :: kr_all) ({ frames := 1, cells := 0, slots := 0, locals := 23 }) (va_Pc [.ref h, .int x] (kr_Rw D (kr_W1 cy h a th N L A) cy sz)) (va_Qi (fun r (_ : Unit) => kr_cd (x = 0 ∨ x = 1) True True = 0 → r = nI (kr_cn A x N)) (fun _ t => kr_Rq D (kr_W1 cy h a (kr_cd (x = 0 ∨ x = 1) True True) N L A) cy (va_A (kr_W1 cy h a th N L A) sz) t) (va_A (kr_W1 cy h a th N L A) sz)) 0 0 (va_A (kr_W1 cy h a th N L A) sz) := by
  refine kr_ofw (Qc := fun AA => va_Qi (fun r (_ : Unit) => kr_cd (x = 0 ∨ x = 1) True True = 0 → r = nI (kr_cn A x N)) (fun _ t => kr_Rq D (kr_W1 cy h a (kr_cd (x = 0 ∨ x = 1) True True) N L A) cy AA t) AA) (by decide) (Nat.le_of_ble_eq_true rfl) ?_
  intro p e s m below meth c ls AA hx hb hml hr hts hown hlocks hin hA hP hK hD hS hl
  have hown : s.vm.findClass RX1 = some m.cls := hown
  have hl : lv_has ls 2 [(0, .ref h), (1, .int x)] := hl
  have hN := hw.1
  refine lv_aload_n hx hb dX1_knotsOf_0 rfl (lv_at hl 0 rfl) ?_
  refine lv_iconst (v := 0) hx hb dX1_knotsOf_1 (by decide) ?_
  refine va_put (ci := 1) (v := .int 0) (ty := .int) (C := RX1) (T := TX1) (N := 11) hx hb hts kr_wsX1 tyX1 tyX1_ok nmX1 hown hK hP hD hS 0 rfl rfl 0 (by decide) (hts _ kq_542) (fun _ h9 => h9) rfl (by decide +kernel) rfl rfl (Nat.le_of_ble_eq_true rfl) dX1_knotsOf_2 (fun H locs hP hD hS => ?_)
  have hP : va_P D vwCl (kr_W1 cy h a 0 N L A) H := hP
  have hD : va_D AA (kr_W1 cy h a 0 N L A) := hD
  refine lv_iload_n hx hb dX1_knotsOf_5 rfl (lv_at hl 1 rfl) ?_
  refine lv_iconst (v := 0) hx hb dX1_knotsOf_6 (by decide) ?_
  refine lv_iconst (v := 1) hx hb dX1_knotsOf_7 (by decide) ?_
  refine kr_sI (n := 3) (As := [.int x, .int 0, .int 1]) (rest := []) ⟨hx, hb, hml, hown, hts⟩ (c_X1_isIn l x 0 1) kg_RX1_41 ⟨rfl, rfl⟩ (by decide +kernel) ⟨Nat.le_of_ble_eq_true rfl, Nat.le_of_ble_eq_true rfl⟩ ⟨kr_blT, fun U hU hW => ⟨rfl, trivial⟩⟩ rfl hl.1 rfl (Nat.le_of_ble_eq_true rfl) dX1_knotsOf_8 ⟨Nat.zero_le _, Nat.zero_le _⟩ (fun r9 e9 => ?_)
  subst e9
  refine lv_if_eq (tgt := 22) hx hb dX1_knotsOf_11 (by decide) (fun c11 => ?_) (fun c11 => ?_)
  · rw [kr_cd1 (fun w => kr_if0 c11 (kr_k01.mpr w))]
    refine lv_aload_n hx hb dX1_knotsOf_22 rfl (lv_at hl 0 rfl) ?_
    refine lv_iconst (v := 1) hx hb dX1_knotsOf_23 (by decide) ?_
    refine kr_wvI (n := 1) (As := [.int 1]) (rest := []) ⟨hx, hb, hml, hown, hts⟩ (c_X1_no l D cy h a 0 N L A H.size 1) kg_RX1_88 ⟨rfl, rfl⟩ (by decide +kernel) ⟨Nat.le_of_ble_eq_true rfl, Nat.le_of_ble_eq_true rfl⟩ (va_recv hK hP (ci := 1) (q0 := 0) rfl rfl) hP hK hD hS hA rfl hl.1 rfl (Nat.le_of_ble_eq_true rfl) dX1_knotsOf_24 ⟨Nat.le_of_ble_eq_true rfl, Nat.le_of_ble_eq_true rfl⟩ (fun r9 u9 H locs e9 hP hD hS => ?_)
    subst e9
    exact kr_wI hx hb hr hlocks hP hK hD hS (fun z => absurd z (by decide)) dX1_knotsOf_27
  · rw [kr_cd0 (kr_k01.mp (kr_if1 c11)) trivial trivial]
    refine lv_aload_n hx hb dX1_knotsOf_14 rfl (lv_at hl 0 rfl) ?_
    refine lv_iload_n hx hb dX1_knotsOf_15 rfl (lv_at hl 1 rfl) ?_
    refine kr_vI (n := 1) (As := [.int x]) (rest := []) ⟨hx, hb, hml, hown, hts⟩ (c_X1_many l D cy h a 0 N L A x (by omega)) kg_RX1_109 ⟨rfl, rfl⟩ (by decide +kernel) ⟨Nat.le_of_ble_eq_true rfl, Nat.le_of_ble_eq_true rfl⟩ (kr_pv1 hP hK) rfl hl.1 rfl (Nat.le_of_ble_eq_true rfl) dX1_knotsOf_16 ⟨Nat.zero_le _, Nat.zero_le _⟩ (fun r9 e9 => ?_)
    subst e9
    refine lv_goto (tgt := 27) hx hb dX1_knotsOf_19 (by decide) ?_
    exact kr_wI hx hb hr hlocks hP hK hD hS (fun _ => rfl) dX1_knotsOf_27
set_option maxHeartbeats 4000000 in
set_option maxRecDepth 100000 in
theorem c_X1_knotAt (l : Launch) (D : va_G) (cy : ClassId) (h : Nat) (a : Nat → Nat) (th : Int32) (N L : Nat) (A : Nat → Nat → Int32) (sz : Nat) (x y : Int32) (hw : kr_wf N L A) : Met l yX1_knotAt (Cond.code yX1_knotAt cX1_knotAt 4 (some .int) :: kr_all) ({ frames := 2, cells := 0, slots := 0, locals := 45 }) (va_Pc [.ref h, .int x, .int y] (kr_Rw D (kr_W1 cy h a th N L A) cy sz)) (va_Qi (fun r (_ : Unit) => kr_cd ((x = 0 ∨ x = 1) ∧ ¬ kr_kw A N x y N 0 = -1) True True = 0 → r = kr_kw A N x y N 0) (fun _ t => kr_Rq D (kr_W1 cy h a (kr_cd ((x = 0 ∨ x = 1) ∧ ¬ kr_kw A N x y N 0 = -1) True True) N L A) cy (va_A (kr_W1 cy h a th N L A) sz) t) (va_A (kr_W1 cy h a th N L A) sz)) 0 0 (va_A (kr_W1 cy h a th N L A) sz) := by
  refine kr_ofw (Qc := fun AA => va_Qi (fun r (_ : Unit) => kr_cd ((x = 0 ∨ x = 1) ∧ ¬ kr_kw A N x y N 0 = -1) True True = 0 → r = kr_kw A N x y N 0) (fun _ t => kr_Rq D (kr_W1 cy h a (kr_cd ((x = 0 ∨ x = 1) ∧ ¬ kr_kw A N x y N 0 = -1) True True) N L A) cy AA t) AA) (by decide) (Nat.le_of_ble_eq_true rfl) ?_
  intro p e s m below meth c ls AA hx hb hml hr hts hown hlocks hin hA hP hK hD hS hl
  have hown : s.vm.findClass RX1 = some m.cls := hown
  have hl : lv_has ls 4 [(0, .ref h), (1, .int x), (2, .int y)] := hl
  have hN := hw.1
  refine lv_aload_n hx hb dX1_knotAt_0 rfl (lv_at hl 0 rfl) ?_
  refine lv_iconst (v := 0) hx hb dX1_knotAt_1 (by decide) ?_
  refine va_put (ci := 1) (v := .int 0) (ty := .int) (C := RX1) (T := TX1) (N := 11) hx hb hts kr_wsX1 tyX1 tyX1_ok nmX1 hown hK hP hD hS 0 rfl rfl 0 (by decide) (hts _ kq_542) (fun _ h9 => h9) rfl (by decide +kernel) rfl rfl (Nat.le_of_ble_eq_true rfl) dX1_knotAt_2 (fun H locs hP hD hS => ?_)
  have hP : va_P D vwCl (kr_W1 cy h a 0 N L A) H := hP
  have hD : va_D AA (kr_W1 cy h a 0 N L A) := hD
  refine lv_iconst (v := 0) hx hb dX1_knotAt_5 (by decide) ?_
  refine lv_istore_n (lv' := [(3, .int 0), (0, .ref h), (1, .int x), (2, .int y)]) hx hb dX1_knotAt_6 rfl hl (by decide) rfl (fun ls hl => ?_)
  refine kr_lpH (nL := 4) (fun z : Nat => [(3, .int (nI z)), (0, .ref h), (1, .int x), (2, .int y)]) (fun z H locs => (z ≤ N ∧ kr_kw A N x y (N - z) z = kr_kw A N x y N 0) ∧ va_P D vwCl (kr_W1 cy h a 0 N L A) H ∧ va_D AA (kr_W1 cy h a 0 N L A) ∧ va_S AA s.heap H locs) (fun z => N - z) ?_ (0) ⟨⟨by omega, rfl⟩, hP, hD, hS⟩ (lv_sub hl [0, 1, 2, 3] rfl)
  clear hl hP hD hS
  intro z H locs ls hI hl ih
  obtain ⟨i, rfl⟩ : ∃ y, y = z := ⟨_, rfl⟩
  have hl : lv_has ls 4 [(3, .int (nI i)), (0, .ref h), (1, .int x), (2, .int y)] := hl
  obtain ⟨⟨hi0, he⟩, hP, hD, hS⟩ : (i ≤ N ∧ kr_kw A N x y (N - i) i = kr_kw A N x y N 0) ∧ va_P D vwCl (kr_W1 cy h a 0 N L A) H ∧ va_D AA (kr_W1 cy h a 0 N L A) ∧ va_S AA s.heap H locs := hI
  refine lv_iload_n hx hb dX1_knotAt_7 rfl (lv_at hl 0 rfl) ?_
  refine lv_aload_n hx hb dX1_knotAt_8 rfl (lv_at hl 1 rfl) ?_
  refine va_get (ci := 1) (v := .int (nI N)) (C := RX1) (T := TX1) (N := 11) hx hb hts kr_wsX1 hown hK hP 0 rfl rfl 1 (by decide) (hts _ kq_543) (fun _ h9 => h9) rfl dX1_knotAt_9 ?_
  refine lv_icmp_ge (tgt := 42) hx hb dX1_knotAt_12 (by decide) (fun c12 => ?_) (fun c12 => ?_)
  · have hi2 : i = N := by have := kr_ge (by omega) (by omega) c12; omega
    rw [hi2, Nat.sub_self] at he
    rw [kr_cd1 (fun w => w.2 he.symm)]
    refine lv_aload_n hx hb dX1_knotAt_42 rfl (lv_at hl 1 rfl) ?_
    refine lv_iconst (v := 1) hx hb dX1_knotAt_43 (by decide) ?_
    refine kr_wvI (n := 1) (As := [.int 1]) (rest := []) ⟨hx, hb, hml, hown, hts⟩ (c_X1_no l D cy h a 0 N L A H.size 1) kg_RX1_88 ⟨rfl, rfl⟩ (by decide +kernel) ⟨Nat.le_of_ble_eq_true rfl, Nat.le_of_ble_eq_true rfl⟩ (va_recv hK hP (ci := 1) (q0 := 0) rfl rfl) hP hK hD hS hA rfl hl.1 rfl (Nat.le_of_ble_eq_true rfl) dX1_knotAt_44 ⟨Nat.le_of_ble_eq_true rfl, Nat.le_of_ble_eq_true rfl⟩ (fun r9 u9 H locs e9 hP hD hS => ?_)
    subst e9
    exact kr_wI hx hb hr hlocks hP hK hD hS (fun z => absurd z (by decide)) dX1_knotAt_47
  · have hi : i < N := kr_lt (by omega) (by omega) c12
    refine lv_aload_n hx hb dX1_knotAt_15 rfl (lv_at hl 1 rfl) ?_
    refine va_get (ci := 1) (v := .ref (a 0)) (C := RX1) (T := TX1) (N := 11) hx hb hts kr_wsX1 hown hK hP 0 rfl rfl 2 (by decide) (hts _ kq_544) (fun _ h9 => h9) rfl dX1_knotAt_16 ?_
    refine lv_iload_n hx hb dX1_knotAt_19 rfl (lv_at hl 0 rfl) ?_
    refine kr_ald hx hb hK hP 1 0 rfl rfl i (by omega) (by decide) dX1_knotAt_20 ?_
    refine lv_iload_n hx hb dX1_knotAt_21 rfl (lv_at hl 2 rfl) ?_
    refine lv_icmp_ne (tgt := 36) hx hb dX1_knotAt_22 (by decide) (fun c22 => ?_) (fun c22 => ?_)
    · refine lv_iinc (v := nI (i + 1)) (lv' := [(3, .int (nI (i + 1))), (0, .ref h), (1, .int x), (2, .int y)]) hx hb dX1_knotAt_36 hl (k := 0) rfl (kr_inc _) (by decide) rfl (fun ls hl => ?_)
      refine lv_goto (tgt := 7) hx hb dX1_knotAt_39 (by decide) ?_
      exact ih (i + 1) _ _ ls ⟨⟨by omega, (kr_kw_s hi (fun z => c22 z.1)).symm.trans he⟩, hP, hD, hS⟩ (by show N - (i + 1) < N - i; omega) (lv_sub hl [0, 1, 2, 3] rfl)
    · refine lv_aload_n hx hb dX1_knotAt_25 rfl (lv_at hl 1 rfl) ?_
      refine lv_iload_n hx hb dX1_knotAt_26 rfl (lv_at hl 0 rfl) ?_
      refine kr_vI (n := 1) (As := [.int (nI i)]) (rest := []) ⟨hx, hb, hml, hown, hts⟩ (c_X1_rank l D cy h a 0 N L A i (by omega) (by omega)) kg_RX1_116 ⟨rfl, rfl⟩ (by decide +kernel) ⟨Nat.le_of_ble_eq_true rfl, Nat.le_of_ble_eq_true rfl⟩ (kr_pv1 hP hK) rfl hl.1 rfl (Nat.le_of_ble_eq_true rfl) dX1_knotAt_27 ⟨Nat.zero_le _, Nat.zero_le _⟩ (fun r9 e9 => ?_)
      subst e9
      refine lv_iload_n hx hb dX1_knotAt_30 rfl (lv_at hl 3 rfl) ?_
      refine lv_icmp_ne (tgt := 36) hx hb dX1_knotAt_31 (by decide) (fun c31 => ?_) (fun c31 => ?_)
      · refine lv_iinc (v := nI (i + 1)) (lv' := [(3, .int (nI (i + 1))), (0, .ref h), (1, .int x), (2, .int y)]) hx hb dX1_knotAt_36 hl (k := 0) rfl (kr_inc _) (by decide) rfl (fun ls hl => ?_)
        refine lv_goto (tgt := 7) hx hb dX1_knotAt_39 (by decide) ?_
        exact ih (i + 1) _ _ ls ⟨⟨by omega, (kr_kw_s hi (fun z => c31 z.2)).symm.trans he⟩, hP, hD, hS⟩ (by show N - (i + 1) < N - i; omega) (lv_sub hl [0, 1, 2, 3] rfl)
      · rw [kr_kw_y hi ⟨c22, c31⟩] at he
        have hx01 : x = 0 ∨ x = 1 := by rw [← c22]; exact (hw.2.2.1 i hi).1
        rw [kr_cd0 ⟨hx01, by rw [← he]; exact kr_kn_ne (by omega)⟩ trivial trivial]
        refine lv_iload_n hx hb dX1_knotAt_34 rfl (lv_at hl 0 rfl) ?_
        exact kr_wI hx hb hr hlocks hP hK hD hS (fun _ => he) dX1_knotAt_35
theorem kg_RX1_94 : GoodIn kr_all (wsS RX1 94 yX1_isLoad (Cond.code yX1_isLoad cX1_isLoad 1 (some .boolean) :: kr_all)) := kr_gS kq_599 kq_600 kq_49 kq_601
set_option maxHeartbeats 4000000 in
set_option maxRecDepth 100000 in
theorem c_X1_isLoaded (l : Launch) (D : va_G) (cy : ClassId) (h : Nat) (a : Nat → Nat) (th : Int32) (N L : Nat) (A : Nat → Nat → Int32) (sz : Nat) (x y : Int32) (hw : kr_wf N L A) : Met l yX1_isLoaded (Cond.code yX1_isLoaded cX1_isLoaded 3 (some .boolean) :: kr_all) ({ frames := 2, cells := 0, slots := 0, locals := 43 }) (va_Pc [.ref h, .int x, .int y] (kr_Rw D (kr_W1 cy h a th N L A) cy sz)) (va_Qi (fun r (_ : Unit) => r = if kr_cd (kr_i N x) (kr_o y) True = 0 then 1 else 0) (fun _ t => kr_Rq D (kr_W1 cy h a (kr_cd (kr_i N x) (kr_o y) True) N L A) cy (va_A (kr_W1 cy h a th N L A) sz) t) (va_A (kr_W1 cy h a th N L A) sz)) 0 0 (va_A (kr_W1 cy h a th N L A) sz) := by
  refine kr_ofw (Qc := fun AA => va_Qi (fun r (_ : Unit) => r = if kr_cd (kr_i N x) (kr_o y) True = 0 then 1 else 0) (fun _ t => kr_Rq D (kr_W1 cy h a (kr_cd (kr_i N x) (kr_o y) True) N L A) cy AA t) AA) (by decide) (Nat.le_of_ble_eq_true rfl) ?_
  intro p e s m below meth c ls AA hx hb hml hr hts hown hlocks hin hA hP hK hD hS hl
  have hown : s.vm.findClass RX1 = some m.cls := hown
  have hl : lv_has ls 3 [(0, .ref h), (1, .int x), (2, .int y)] := hl
  have hN := hw.1
  have hL := hw.2.1
  refine lv_aload_n hx hb dX1_isLoaded_0 rfl (lv_at hl 0 rfl) ?_
  refine lv_aload_n hx hb dX1_isLoaded_1 rfl (lv_at hl 0 rfl) ?_
  refine lv_iload_n hx hb dX1_isLoaded_2 rfl (lv_at hl 1 rfl) ?_
  refine kr_vI (n := 1) (As := [.int x]) (rest := [.ref h]) ⟨hx, hb, hml, hown, hts⟩ (c_X1_isKnot l D cy h a th N L A x (by omega)) kg_RX1_91 ⟨rfl, rfl⟩ (by decide +kernel) ⟨Nat.le_of_ble_eq_true rfl, Nat.le_of_ble_eq_true rfl⟩ (kr_pv1 hP hK) rfl hl.1 rfl (Nat.le_of_ble_eq_true rfl) dX1_isLoaded_3 ⟨Nat.zero_le _, Nat.zero_le _⟩ (fun r9 e9 => ?_)
  subst e9
  refine lv_if_ne (tgt := 13) hx hb dX1_isLoaded_6 (by decide) (fun c6 => ?_) (fun c6 => ?_)
  · refine lv_iload_n hx hb dX1_isLoaded_13 rfl (lv_at hl 2 rfl) ?_
    refine kr_sI (n := 1) (As := [.int y]) (rest := [.ref h]) ⟨hx, hb, hml, hown, hts⟩ (c_X1_isLoad l y) kg_RX1_94 ⟨rfl, rfl⟩ (by decide +kernel) ⟨Nat.le_of_ble_eq_true rfl, Nat.le_of_ble_eq_true rfl⟩ ⟨kr_blT, fun U hU hW => ⟨rfl, trivial⟩⟩ rfl hl.1 rfl (Nat.le_of_ble_eq_true rfl) dX1_isLoaded_14 ⟨Nat.zero_le _, Nat.zero_le _⟩ (fun r9 e9 => ?_)
    subst e9
    refine lv_if_eq (tgt := 24) hx hb dX1_isLoaded_17 (by decide) (fun c17 => ?_) (fun c17 => ?_)
    · rw [kr_cd2 (kr_if1 c6) (kr_if0 c17)]
      refine lv_iconst (v := 2) hx hb dX1_isLoaded_24 (by decide) ?_
      refine va_put (ci := 1) (v := .int 2) (ty := .int) (C := RX1) (T := TX1) (N := 11) hx hb hts kr_wsX1 tyX1 tyX1_ok nmX1 hown hK hP hD hS 0 rfl rfl 0 (by decide) (hts _ kq_542) (fun _ h9 => h9) rfl (by decide +kernel) rfl rfl (Nat.le_of_ble_eq_true rfl) dX1_isLoaded_25 (fun H locs hP hD hS => ?_)
      have hP : va_P D vwCl (kr_W1 cy h a 2 N L A) H := hP
      have hD : va_D AA (kr_W1 cy h a 2 N L A) := hD
      refine lv_aload_n hx hb dX1_isLoaded_28 rfl (lv_at hl 0 rfl) ?_
      refine va_get (ci := 1) (v := .int 2) (C := RX1) (T := TX1) (N := 11) hx hb hts kr_wsX1 hown hK hP 0 rfl rfl 0 (by decide) (hts _ kq_542) (fun _ h9 => h9) rfl dX1_isLoaded_29 ?_
      refine lv_if_ne (tgt := 39) hx hb dX1_isLoaded_32 (by decide) (fun c32 => ?_) (fun c32 => absurd c32 (by decide))
      refine lv_iconst (v := 0) hx hb dX1_isLoaded_39 (by decide) ?_
      exact kr_wZ hx hb hr hlocks hP hK hD hS (Or.inl rfl) rfl dX1_isLoaded_40
    · rw [kr_cd0 (kr_if1 c6) (kr_if1 c17) trivial]
      refine lv_iconst (v := 0) hx hb dX1_isLoaded_20 (by decide) ?_
      refine lv_goto (tgt := 25) hx hb dX1_isLoaded_21 (by decide) ?_
      refine va_put (ci := 1) (v := .int 0) (ty := .int) (C := RX1) (T := TX1) (N := 11) hx hb hts kr_wsX1 tyX1 tyX1_ok nmX1 hown hK hP hD hS 0 rfl rfl 0 (by decide) (hts _ kq_542) (fun _ h9 => h9) rfl (by decide +kernel) rfl rfl (Nat.le_of_ble_eq_true rfl) dX1_isLoaded_25 (fun H locs hP hD hS => ?_)
      have hP : va_P D vwCl (kr_W1 cy h a 0 N L A) H := hP
      have hD : va_D AA (kr_W1 cy h a 0 N L A) := hD
      refine lv_aload_n hx hb dX1_isLoaded_28 rfl (lv_at hl 0 rfl) ?_
      refine va_get (ci := 1) (v := .int 0) (C := RX1) (T := TX1) (N := 11) hx hb hts kr_wsX1 hown hK hP 0 rfl rfl 0 (by decide) (hts _ kq_542) (fun _ h9 => h9) rfl dX1_isLoaded_29 ?_
      refine lv_if_ne (tgt := 39) hx hb dX1_isLoaded_32 (by decide) (fun c32 => absurd rfl c32) (fun c32 => ?_)
      refine lv_iconst (v := 1) hx hb dX1_isLoaded_35 (by decide) ?_
      refine lv_goto (tgt := 40) hx hb dX1_isLoaded_36 (by decide) ?_
      exact kr_wZ hx hb hr hlocks hP hK hD hS (Or.inr rfl) rfl dX1_isLoaded_40
  · rw [kr_cd1 (kr_if0 c6)]
    refine lv_iconst (v := 1) hx hb dX1_isLoaded_9 (by decide) ?_
    refine lv_goto (tgt := 25) hx hb dX1_isLoaded_10 (by decide) ?_
    refine va_put (ci := 1) (v := .int 1) (ty := .int) (C := RX1) (T := TX1) (N := 11) hx hb hts kr_wsX1 tyX1 tyX1_ok nmX1 hown hK hP hD hS 0 rfl rfl 0 (by decide) (hts _ kq_542) (fun _ h9 => h9) rfl (by decide +kernel) rfl rfl (Nat.le_of_ble_eq_true rfl) dX1_isLoaded_25 (fun H locs hP hD hS => ?_)
    have hP : va_P D vwCl (kr_W1 cy h a 1 N L A) H := hP
    have hD : va_D AA (kr_W1 cy h a 1 N L A) := hD
    refine lv_aload_n hx hb dX1_isLoaded_28 rfl (lv_at hl 0 rfl) ?_
    refine va_get (ci := 1) (v := .int 1) (C := RX1) (T := TX1) (N := 11) hx hb hts kr_wsX1 hown hK hP 0 rfl rfl 0 (by decide) (hts _ kq_542) (fun _ h9 => h9) rfl dX1_isLoaded_29 ?_
    refine lv_if_ne (tgt := 39) hx hb dX1_isLoaded_32 (by decide) (fun c32 => ?_) (fun c32 => absurd c32 (by decide))
    refine lv_iconst (v := 0) hx hb dX1_isLoaded_39 (by decide) ?_
    exact kr_wZ hx hb hr hlocks hP hK hD hS (Or.inl rfl) rfl dX1_isLoaded_40
set_option maxHeartbeats 4000000 in
set_option maxRecDepth 100000 in
theorem c_X1_isPulled (l : Launch) (D : va_G) (cy : ClassId) (h : Nat) (a : Nat → Nat) (th : Int32) (N L : Nat) (A : Nat → Nat → Int32) (sz : Nat) (x y : Int32) (hw : kr_wf N L A) : Met l yX1_isPulled (Cond.code yX1_isPulled cX1_isPulled 3 (some .boolean) :: kr_all) ({ frames := 2, cells := 0, slots := 0, locals := 43 }) (va_Pc [.ref h, .int x, .int y] (kr_Rw D (kr_W1 cy h a th N L A) cy sz)) (va_Qi (fun r (_ : Unit) => r = if kr_cd (kr_i L x) (kr_o y) True = 0 then 1 else 0) (fun _ t => kr_Rq D (kr_W1 cy h a (kr_cd (kr_i L x) (kr_o y) True) N L A) cy (va_A (kr_W1 cy h a th N L A) sz) t) (va_A (kr_W1 cy h a th N L A) sz)) 0 0 (va_A (kr_W1 cy h a th N L A) sz) := by
  refine kr_ofw (Qc := fun AA => va_Qi (fun r (_ : Unit) => r = if kr_cd (kr_i L x) (kr_o y) True = 0 then 1 else 0) (fun _ t => kr_Rq D (kr_W1 cy h a (kr_cd (kr_i L x) (kr_o y) True) N L A) cy AA t) AA) (by decide) (Nat.le_of_ble_eq_true rfl) ?_
  intro p e s m below meth c ls AA hx hb hml hr hts hown hlocks hin hA hP hK hD hS hl
  have hown : s.vm.findClass RX1 = some m.cls := hown
  have hl : lv_has ls 3 [(0, .ref h), (1, .int x), (2, .int y)] := hl
  have hN := hw.1
  have hL := hw.2.1
  refine lv_aload_n hx hb dX1_isPulled_0 rfl (lv_at hl 0 rfl) ?_
  refine lv_aload_n hx hb dX1_isPulled_1 rfl (lv_at hl 0 rfl) ?_
  refine lv_iload_n hx hb dX1_isPulled_2 rfl (lv_at hl 1 rfl) ?_
  refine kr_vI (n := 1) (As := [.int x]) (rest := [.ref h]) ⟨hx, hb, hml, hown, hts⟩ (c_X1_isLine l D cy h a th N L A x (by omega)) kg_RX1_48 ⟨rfl, rfl⟩ (by decide +kernel) ⟨Nat.le_of_ble_eq_true rfl, Nat.le_of_ble_eq_true rfl⟩ (kr_pv1 hP hK) rfl hl.1 rfl (Nat.le_of_ble_eq_true rfl) dX1_isPulled_3 ⟨Nat.zero_le _, Nat.zero_le _⟩ (fun r9 e9 => ?_)
  subst e9
  refine lv_if_ne (tgt := 13) hx hb dX1_isPulled_6 (by decide) (fun c6 => ?_) (fun c6 => ?_)
  · refine lv_iload_n hx hb dX1_isPulled_13 rfl (lv_at hl 2 rfl) ?_
    refine kr_sI (n := 1) (As := [.int y]) (rest := [.ref h]) ⟨hx, hb, hml, hown, hts⟩ (c_X1_isLoad l y) kg_RX1_94 ⟨rfl, rfl⟩ (by decide +kernel) ⟨Nat.le_of_ble_eq_true rfl, Nat.le_of_ble_eq_true rfl⟩ ⟨kr_blT, fun U hU hW => ⟨rfl, trivial⟩⟩ rfl hl.1 rfl (Nat.le_of_ble_eq_true rfl) dX1_isPulled_14 ⟨Nat.zero_le _, Nat.zero_le _⟩ (fun r9 e9 => ?_)
    subst e9
    refine lv_if_eq (tgt := 24) hx hb dX1_isPulled_17 (by decide) (fun c17 => ?_) (fun c17 => ?_)
    · rw [kr_cd2 (kr_if1 c6) (kr_if0 c17)]
      refine lv_iconst (v := 2) hx hb dX1_isPulled_24 (by decide) ?_
      refine va_put (ci := 1) (v := .int 2) (ty := .int) (C := RX1) (T := TX1) (N := 11) hx hb hts kr_wsX1 tyX1 tyX1_ok nmX1 hown hK hP hD hS 0 rfl rfl 0 (by decide) (hts _ kq_542) (fun _ h9 => h9) rfl (by decide +kernel) rfl rfl (Nat.le_of_ble_eq_true rfl) dX1_isPulled_25 (fun H locs hP hD hS => ?_)
      have hP : va_P D vwCl (kr_W1 cy h a 2 N L A) H := hP
      have hD : va_D AA (kr_W1 cy h a 2 N L A) := hD
      refine lv_aload_n hx hb dX1_isPulled_28 rfl (lv_at hl 0 rfl) ?_
      refine va_get (ci := 1) (v := .int 2) (C := RX1) (T := TX1) (N := 11) hx hb hts kr_wsX1 hown hK hP 0 rfl rfl 0 (by decide) (hts _ kq_542) (fun _ h9 => h9) rfl dX1_isPulled_29 ?_
      refine lv_if_ne (tgt := 39) hx hb dX1_isPulled_32 (by decide) (fun c32 => ?_) (fun c32 => absurd c32 (by decide))
      refine lv_iconst (v := 0) hx hb dX1_isPulled_39 (by decide) ?_
      exact kr_wZ hx hb hr hlocks hP hK hD hS (Or.inl rfl) rfl dX1_isPulled_40
    · rw [kr_cd0 (kr_if1 c6) (kr_if1 c17) trivial]
      refine lv_iconst (v := 0) hx hb dX1_isPulled_20 (by decide) ?_
      refine lv_goto (tgt := 25) hx hb dX1_isPulled_21 (by decide) ?_
      refine va_put (ci := 1) (v := .int 0) (ty := .int) (C := RX1) (T := TX1) (N := 11) hx hb hts kr_wsX1 tyX1 tyX1_ok nmX1 hown hK hP hD hS 0 rfl rfl 0 (by decide) (hts _ kq_542) (fun _ h9 => h9) rfl (by decide +kernel) rfl rfl (Nat.le_of_ble_eq_true rfl) dX1_isPulled_25 (fun H locs hP hD hS => ?_)
      have hP : va_P D vwCl (kr_W1 cy h a 0 N L A) H := hP
      have hD : va_D AA (kr_W1 cy h a 0 N L A) := hD
      refine lv_aload_n hx hb dX1_isPulled_28 rfl (lv_at hl 0 rfl) ?_
      refine va_get (ci := 1) (v := .int 0) (C := RX1) (T := TX1) (N := 11) hx hb hts kr_wsX1 hown hK hP 0 rfl rfl 0 (by decide) (hts _ kq_542) (fun _ h9 => h9) rfl dX1_isPulled_29 ?_
      refine lv_if_ne (tgt := 39) hx hb dX1_isPulled_32 (by decide) (fun c32 => absurd rfl c32) (fun c32 => ?_)
      refine lv_iconst (v := 1) hx hb dX1_isPulled_35 (by decide) ?_
      refine lv_goto (tgt := 40) hx hb dX1_isPulled_36 (by decide) ?_
      exact kr_wZ hx hb hr hlocks hP hK hD hS (Or.inr rfl) rfl dX1_isPulled_40
  · rw [kr_cd1 (kr_if0 c6)]
    refine lv_iconst (v := 1) hx hb dX1_isPulled_9 (by decide) ?_
    refine lv_goto (tgt := 25) hx hb dX1_isPulled_10 (by decide) ?_
    refine va_put (ci := 1) (v := .int 1) (ty := .int) (C := RX1) (T := TX1) (N := 11) hx hb hts kr_wsX1 tyX1 tyX1_ok nmX1 hown hK hP hD hS 0 rfl rfl 0 (by decide) (hts _ kq_542) (fun _ h9 => h9) rfl (by decide +kernel) rfl rfl (Nat.le_of_ble_eq_true rfl) dX1_isPulled_25 (fun H locs hP hD hS => ?_)
    have hP : va_P D vwCl (kr_W1 cy h a 1 N L A) H := hP
    have hD : va_D AA (kr_W1 cy h a 1 N L A) := hD
    refine lv_aload_n hx hb dX1_isPulled_28 rfl (lv_at hl 0 rfl) ?_
    refine va_get (ci := 1) (v := .int 1) (C := RX1) (T := TX1) (N := 11) hx hb hts kr_wsX1 hown hK hP 0 rfl rfl 0 (by decide) (hts _ kq_542) (fun _ h9 => h9) rfl dX1_isPulled_29 ?_
    refine lv_if_ne (tgt := 39) hx hb dX1_isPulled_32 (by decide) (fun c32 => ?_) (fun c32 => absurd c32 (by decide))
    refine lv_iconst (v := 0) hx hb dX1_isPulled_39 (by decide) ?_
    exact kr_wZ hx hb hr hlocks hP hK hD hS (Or.inl rfl) rfl dX1_isPulled_40
theorem kg_RX1_119 : GoodIn kr_all (wsV RX1 119 RX1 yX1_isLoaded (Cond.code yX1_isLoaded cX1_isLoaded 3 (some .boolean) :: kr_all)) := kr_gV kq_710 kq_712 kq_37 kq_49 kq_713
set_option maxHeartbeats 4000000 in
set_option maxRecDepth 100000 in
theorem c_X1_formOf (l : Launch) (D : va_G) (cy : ClassId) (h : Nat) (a : Nat → Nat) (th : Int32) (N L : Nat) (A : Nat → Nat → Int32) (sz : Nat) (x y : Int32) (hw : kr_wf N L A) : Met l yX1_formOf (Cond.code yX1_formOf cX1_formOf 3 (some .int) :: kr_all) ({ frames := 3, cells := 0, slots := 0, locals := 65 }) (va_Pc [.ref h, .int x, .int y] (kr_Rw D (kr_W1 cy h a th N L A) cy sz)) (va_Qi (fun r (_ : Unit) => kr_cd (kr_i N x) (kr_o y) True = 0 → r = kr_fm A y 16 x) (fun _ t => kr_Rq D (kr_W1 cy h a (kr_cd (kr_i N x) (kr_o y) True) N L A) cy (va_A (kr_W1 cy h a th N L A) sz) t) (va_A (kr_W1 cy h a th N L A) sz)) 0 0 (va_A (kr_W1 cy h a th N L A) sz) := by
  refine kr_ofw (Qc := fun AA => va_Qi (fun r (_ : Unit) => kr_cd (kr_i N x) (kr_o y) True = 0 → r = kr_fm A y 16 x) (fun _ t => kr_Rq D (kr_W1 cy h a (kr_cd (kr_i N x) (kr_o y) True) N L A) cy AA t) AA) (by decide) (Nat.le_of_ble_eq_true rfl) ?_
  intro p e s m below meth c ls AA hx hb hml hr hts hown hlocks hin hA hP hK hD hS hl
  have hown : s.vm.findClass RX1 = some m.cls := hown
  have hl : lv_has ls 3 [(0, .ref h), (1, .int x), (2, .int y)] := hl
  have hN := hw.1
  have hL := hw.2.1
  refine lv_aload_n hx hb dX1_formOf_0 rfl (lv_at hl 0 rfl) ?_
  refine lv_iload_n hx hb dX1_formOf_1 rfl (lv_at hl 1 rfl) ?_
  refine lv_iload_n hx hb dX1_formOf_2 rfl (lv_at hl 2 rfl) ?_
  refine kr_wvI (n := 2) (As := [.int x, .int y]) (rest := []) ⟨hx, hb, hml, hown, hts⟩ (c_X1_isLoaded l D cy h a th N L A s.heap.size x y hw) kg_RX1_119 ⟨rfl, rfl⟩ (by decide +kernel) ⟨Nat.le_of_ble_eq_true rfl, Nat.le_of_ble_eq_true rfl⟩ (va_recv hK hP (ci := 1) (q0 := 0) rfl rfl) hP hK hD hS hA rfl hl.1 rfl (Nat.le_of_ble_eq_true rfl) dX1_formOf_3 ⟨Nat.le_of_ble_eq_true rfl, Nat.le_of_ble_eq_true rfl⟩ (fun r9 u9 H locs e9 hP hD hS => ?_)
  subst e9
  refine lv_if_eq (tgt := 18) hx hb dX1_formOf_6 (by decide) (fun c6 => ?_) (fun c6 => ?_)
  · refine lv_iconst (v := 0) hx hb dX1_formOf_18 (by decide) ?_
    exact kr_wI hx hb hr hlocks hP hK hD hS (fun w => absurd w (kr_if0 c6)) dX1_formOf_19
  · obtain ⟨hk, ho, -⟩ := kr_cdE (kr_if1 c6)
    obtain ⟨k, hk2, rfl⟩ := kr_inN hN hk
    refine lv_aload_n hx hb dX1_formOf_9 rfl (lv_at hl 0 rfl) ?_
    refine lv_iload_n hx hb dX1_formOf_10 rfl (lv_at hl 1 rfl) ?_
    refine lv_iload_n hx hb dX1_formOf_11 rfl (lv_at hl 2 rfl) ?_
    refine kr_vI (n := 2) (As := [.int (nI k), .int y]) (rest := []) ⟨hx, hb, hml, hown, hts⟩ (c_X1_form l D cy h a (kr_cd (kr_i N (nI k)) (kr_o y) True) N L A (nI k) y hw (by first | assumption | exact Or.inr ⟨_, by assumption, rfl⟩ | exact hw.tn (by assumption) (by assumption))) kg_RX1_68 ⟨rfl, rfl⟩ (by decide +kernel) ⟨Nat.le_of_ble_eq_true rfl, Nat.le_of_ble_eq_true rfl⟩ (kr_pv1 hP hK) rfl hl.1 rfl (Nat.le_of_ble_eq_true rfl) dX1_formOf_12 ⟨Nat.zero_le _, Nat.zero_le _⟩ (fun r9 e9 => ?_)
    subst e9
    refine lv_goto (tgt := 19) hx hb dX1_formOf_15 (by decide) ?_
    exact kr_wI hx hb hr hlocks hP hK hD hS (fun _ => rfl) dX1_formOf_19
theorem kg_RX1_122 : GoodIn kr_all (wsV RX1 122 RX1 yX1_often (Cond.code yX1_often cX1_often 5 (some .int) :: kr_all)) := kr_gV kq_718 kq_720 kq_38 kq_49 kq_721
set_option maxHeartbeats 4000000 in
set_option maxRecDepth 100000 in
theorem c_X1_spills (l : Launch) (D : va_G) (cy : ClassId) (h : Nat) (a : Nat → Nat) (th : Int32) (N L : Nat) (A : Nat → Nat → Int32) (sz : Nat) (x y : Int32) (hw : kr_wf N L A) : Met l yX1_spills (Cond.code yX1_spills cX1_spills 3 (some .int) :: kr_all) ({ frames := 3, cells := 0, slots := 0, locals := 65 }) (va_Pc [.ref h, .int x, .int y] (kr_Rw D (kr_W1 cy h a th N L A) cy sz)) (va_Qi (fun r (_ : Unit) => kr_cd (kr_i N x) (kr_o y) True = 0 → r = nI (kr_sp A y 16 x)) (fun _ t => kr_Rq D (kr_W1 cy h a (kr_cd (kr_i N x) (kr_o y) True) N L A) cy (va_A (kr_W1 cy h a th N L A) sz) t) (va_A (kr_W1 cy h a th N L A) sz)) 0 0 (va_A (kr_W1 cy h a th N L A) sz) := by
  refine kr_ofw (Qc := fun AA => va_Qi (fun r (_ : Unit) => kr_cd (kr_i N x) (kr_o y) True = 0 → r = nI (kr_sp A y 16 x)) (fun _ t => kr_Rq D (kr_W1 cy h a (kr_cd (kr_i N x) (kr_o y) True) N L A) cy AA t) AA) (by decide) (Nat.le_of_ble_eq_true rfl) ?_
  intro p e s m below meth c ls AA hx hb hml hr hts hown hlocks hin hA hP hK hD hS hl
  have hown : s.vm.findClass RX1 = some m.cls := hown
  have hl : lv_has ls 3 [(0, .ref h), (1, .int x), (2, .int y)] := hl
  have hN := hw.1
  have hL := hw.2.1
  refine lv_aload_n hx hb dX1_spills_0 rfl (lv_at hl 0 rfl) ?_
  refine lv_iload_n hx hb dX1_spills_1 rfl (lv_at hl 1 rfl) ?_
  refine lv_iload_n hx hb dX1_spills_2 rfl (lv_at hl 2 rfl) ?_
  refine kr_wvI (n := 2) (As := [.int x, .int y]) (rest := []) ⟨hx, hb, hml, hown, hts⟩ (c_X1_isLoaded l D cy h a th N L A s.heap.size x y hw) kg_RX1_119 ⟨rfl, rfl⟩ (by decide +kernel) ⟨Nat.le_of_ble_eq_true rfl, Nat.le_of_ble_eq_true rfl⟩ (va_recv hK hP (ci := 1) (q0 := 0) rfl rfl) hP hK hD hS hA rfl hl.1 rfl (Nat.le_of_ble_eq_true rfl) dX1_spills_3 ⟨Nat.le_of_ble_eq_true rfl, Nat.le_of_ble_eq_true rfl⟩ (fun r9 u9 H locs e9 hP hD hS => ?_)
  subst e9
  refine lv_if_eq (tgt := 18) hx hb dX1_spills_6 (by decide) (fun c6 => ?_) (fun c6 => ?_)
  · refine lv_iconst (v := 0) hx hb dX1_spills_18 (by decide) ?_
    exact kr_wI hx hb hr hlocks hP hK hD hS (fun w => absurd w (kr_if0 c6)) dX1_spills_19
  · obtain ⟨hk, ho, -⟩ := kr_cdE (kr_if1 c6)
    obtain ⟨k, hk2, rfl⟩ := kr_inN hN hk
    refine lv_aload_n hx hb dX1_spills_9 rfl (lv_at hl 0 rfl) ?_
    refine lv_iload_n hx hb dX1_spills_10 rfl (lv_at hl 1 rfl) ?_
    refine lv_iload_n hx hb dX1_spills_11 rfl (lv_at hl 2 rfl) ?_
    refine kr_vI (n := 2) (As := [.int (nI k), .int y]) (rest := []) ⟨hx, hb, hml, hown, hts⟩ (c_X1_often l D cy h a (kr_cd (kr_i N (nI k)) (kr_o y) True) N L A k y hw (by omega)) kg_RX1_122 ⟨rfl, rfl⟩ (by decide +kernel) ⟨Nat.le_of_ble_eq_true rfl, Nat.le_of_ble_eq_true rfl⟩ (kr_pv1 hP hK) rfl hl.1 rfl (Nat.le_of_ble_eq_true rfl) dX1_spills_12 ⟨Nat.zero_le _, Nat.zero_le _⟩ (fun r9 e9 => ?_)
    subst e9
    refine lv_goto (tgt := 19) hx hb dX1_spills_15 (by decide) ?_
    exact kr_wI hx hb hr hlocks hP hK hD hS (fun _ => rfl) dX1_spills_19
theorem kg_RX1_131 : GoodIn kr_all (wsV RX1 131 RX1 yX1_isPulled (Cond.code yX1_isPulled cX1_isPulled 3 (some .boolean) :: kr_all)) := kr_gV kq_763 kq_765 kq_42 kq_49 kq_766
theorem kg_RX1_103 : GoodIn kr_all (wsV RX1 103 RX1 yX1_giving (Cond.code yX1_giving cX1_giving 4 (some .int) :: kr_all)) := kr_gV kq_629 kq_631 kq_27 kq_49 kq_632
set_option maxHeartbeats 4000000 in
set_option maxRecDepth 100000 in
theorem c_X1_wouldGiveWay (l : Launch) (D : va_G) (cy : ClassId) (h : Nat) (a : Nat → Nat) (th : Int32) (N L : Nat) (A : Nat → Nat → Int32) (sz : Nat) (x y : Int32) (hw : kr_wf N L A) : Met l yX1_wouldGiveWay (Cond.code yX1_wouldGiveWay cX1_wouldGiveWay 3 (some .int) :: kr_all) ({ frames := 4, cells := 0, slots := 0, locals := 92 }) (va_Pc [.ref h, .int x, .int y] (kr_Rw D (kr_W1 cy h a th N L A) cy sz)) (va_Qi (fun r (_ : Unit) => kr_cd (kr_i L x) (kr_o y) True = 0 → r = kr_gw A (kr_ix x) y) (fun _ t => kr_Rq D (kr_W1 cy h a (kr_cd (kr_i L x) (kr_o y) True) N L A) cy (va_A (kr_W1 cy h a th N L A) sz) t) (va_A (kr_W1 cy h a th N L A) sz)) 0 0 (va_A (kr_W1 cy h a th N L A) sz) := by
  refine kr_ofw (Qc := fun AA => va_Qi (fun r (_ : Unit) => kr_cd (kr_i L x) (kr_o y) True = 0 → r = kr_gw A (kr_ix x) y) (fun _ t => kr_Rq D (kr_W1 cy h a (kr_cd (kr_i L x) (kr_o y) True) N L A) cy AA t) AA) (by decide) (Nat.le_of_ble_eq_true rfl) ?_
  intro p e s m below meth c ls AA hx hb hml hr hts hown hlocks hin hA hP hK hD hS hl
  have hown : s.vm.findClass RX1 = some m.cls := hown
  have hl : lv_has ls 3 [(0, .ref h), (1, .int x), (2, .int y)] := hl
  have hN := hw.1
  have hL := hw.2.1
  refine lv_aload_n hx hb dX1_wouldGiveWay_0 rfl (lv_at hl 0 rfl) ?_
  refine lv_iload_n hx hb dX1_wouldGiveWay_1 rfl (lv_at hl 1 rfl) ?_
  refine lv_iload_n hx hb dX1_wouldGiveWay_2 rfl (lv_at hl 2 rfl) ?_
  refine kr_wvI (n := 2) (As := [.int x, .int y]) (rest := []) ⟨hx, hb, hml, hown, hts⟩ (c_X1_isPulled l D cy h a th N L A s.heap.size x y hw) kg_RX1_131 ⟨rfl, rfl⟩ (by decide +kernel) ⟨Nat.le_of_ble_eq_true rfl, Nat.le_of_ble_eq_true rfl⟩ (va_recv hK hP (ci := 1) (q0 := 0) rfl rfl) hP hK hD hS hA rfl hl.1 rfl (Nat.le_of_ble_eq_true rfl) dX1_wouldGiveWay_3 ⟨Nat.le_of_ble_eq_true rfl, Nat.le_of_ble_eq_true rfl⟩ (fun r9 u9 H locs e9 hP hD hS => ?_)
  subst e9
  refine lv_if_eq (tgt := 18) hx hb dX1_wouldGiveWay_6 (by decide) (fun c6 => ?_) (fun c6 => ?_)
  · refine lv_iconst (v := 0) hx hb dX1_wouldGiveWay_18 (by decide) ?_
    exact kr_wI hx hb hr hlocks hP hK hD hS (fun w => absurd w (kr_if0 c6)) dX1_wouldGiveWay_19
  · obtain ⟨hk, ho, -⟩ := kr_cdE (kr_if1 c6)
    obtain ⟨q, hq, rfl⟩ := kr_inL hL hk
    refine lv_aload_n hx hb dX1_wouldGiveWay_9 rfl (lv_at hl 0 rfl) ?_
    refine lv_iload_n hx hb dX1_wouldGiveWay_10 rfl (lv_at hl 1 rfl) ?_
    refine lv_iload_n hx hb dX1_wouldGiveWay_11 rfl (lv_at hl 2 rfl) ?_
    refine kr_vI (n := 2) (As := [.int (nI q), .int y]) (rest := []) ⟨hx, hb, hml, hown, hts⟩ (c_X1_giving l D cy h a (kr_cd (kr_i L (nI q)) (kr_o y) True) N L A q y hw (by omega)) kg_RX1_103 ⟨rfl, rfl⟩ (by decide +kernel) ⟨Nat.le_of_ble_eq_true rfl, Nat.le_of_ble_eq_true rfl⟩ (kr_pv1 hP hK) rfl hl.1 rfl (Nat.le_of_ble_eq_true rfl) dX1_wouldGiveWay_12 ⟨Nat.zero_le _, Nat.zero_le _⟩ (fun r9 e9 => ?_)
    subst e9
    refine lv_goto (tgt := 19) hx hb dX1_wouldGiveWay_15 (by decide) ?_
    exact kr_wI hx hb hr hlocks hP hK hD hS (fun _ => by rw [kr_ix_nI (by omega)]) dX1_wouldGiveWay_19
set_option maxHeartbeats 4000000 in
set_option maxRecDepth 100000 in
theorem c_X1_holds (l : Launch) (D : va_G) (cy : ClassId) (h : Nat) (a : Nat → Nat) (th : Int32) (N L : Nat) (A : Nat → Nat → Int32) (sz : Nat) (x y : Int32) (hw : kr_wf N L A) : Met l yX1_holds (Cond.code yX1_holds cX1_holds 3 (some .boolean) :: kr_all) ({ frames := 4, cells := 0, slots := 0, locals := 92 }) (va_Pc [.ref h, .int x, .int y] (kr_Rw D (kr_W1 cy h a th N L A) cy sz)) (va_Qi (fun r (_ : Unit) => kr_cd (kr_i L x) (kr_o y) True = 0 → r = if ¬ A 5 (kr_ix x) = 0 ∧ kr_gw A (kr_ix x) y = -1 then 1 else 0) (fun _ t => kr_Rq D (kr_W1 cy h a (kr_cd (kr_i L x) (kr_o y) True) N L A) cy (va_A (kr_W1 cy h a th N L A) sz) t) (va_A (kr_W1 cy h a th N L A) sz)) 0 0 (va_A (kr_W1 cy h a th N L A) sz) := by
  refine kr_ofw (Qc := fun AA => va_Qi (fun r (_ : Unit) => kr_cd (kr_i L x) (kr_o y) True = 0 → r = if ¬ A 5 (kr_ix x) = 0 ∧ kr_gw A (kr_ix x) y = -1 then 1 else 0) (fun _ t => kr_Rq D (kr_W1 cy h a (kr_cd (kr_i L x) (kr_o y) True) N L A) cy AA t) AA) (by decide) (Nat.le_of_ble_eq_true rfl) ?_
  intro p e s m below meth c ls AA hx hb hml hr hts hown hlocks hin hA hP hK hD hS hl
  have hown : s.vm.findClass RX1 = some m.cls := hown
  have hl : lv_has ls 3 [(0, .ref h), (1, .int x), (2, .int y)] := hl
  have hL := hw.2.1
  refine lv_aload_n hx hb dX1_holds_0 rfl (lv_at hl 0 rfl) ?_
  refine lv_iload_n hx hb dX1_holds_1 rfl (lv_at hl 1 rfl) ?_
  refine lv_iload_n hx hb dX1_holds_2 rfl (lv_at hl 2 rfl) ?_
  refine kr_wvI (n := 2) (As := [.int x, .int y]) (rest := []) ⟨hx, hb, hml, hown, hts⟩ (c_X1_isPulled l D cy h a th N L A s.heap.size x y hw) kg_RX1_131 ⟨rfl, rfl⟩ (by decide +kernel) ⟨Nat.le_of_ble_eq_true rfl, Nat.le_of_ble_eq_true rfl⟩ (va_recv hK hP (ci := 1) (q0 := 0) rfl rfl) hP hK hD hS hA rfl hl.1 rfl (Nat.le_of_ble_eq_true rfl) dX1_holds_3 ⟨Nat.le_of_ble_eq_true rfl, Nat.le_of_ble_eq_true rfl⟩ (fun r9 u9 H locs e9 hP hD hS => ?_)
  subst e9
  refine lv_if_eq (tgt := 32) hx hb dX1_holds_6 (by decide) (fun c6 => ?_) (fun c6 => ?_)
  · refine lv_iconst (v := 0) hx hb dX1_holds_32 (by decide) ?_
    exact kr_wZ hx hb hr hlocks hP hK hD hS (Or.inl rfl) (fun w => absurd w (kr_if0 c6)) dX1_holds_33
  · obtain ⟨hk, ho, -⟩ := kr_cdE (kr_if1 c6)
    obtain ⟨q, hq, rfl⟩ := kr_inL hL hk
    obtain ⟨hrc, er⟩ := hw.rc hq
    have h5 := kr_le0 ⟨_, (by omega : kr_rc A q ≤ 999), er⟩
    refine lv_aload_n hx hb dX1_holds_9 rfl (lv_at hl 0 rfl) ?_
    refine va_get (ci := 1) (v := .ref (a 5)) (C := RX1) (T := TX1) (N := 11) hx hb hts kr_wsX1 hown hK hP 0 rfl rfl 8 (by decide) (hts _ kq_550) (fun _ h9 => h9) rfl dX1_holds_10 ?_
    refine lv_iload_n hx hb dX1_holds_13 rfl (lv_at hl 1 rfl) ?_
    refine kr_ald hx hb hK hP 6 0 rfl rfl q (by omega) (by decide) dX1_holds_14 ?_
    refine lv_if_le (tgt := 32) hx hb dX1_holds_15 (by decide) (fun c15 => ?_) (fun c15 => ?_)
    · refine lv_iconst (v := 0) hx hb dX1_holds_32 (by decide) ?_
      exact kr_wZ hx hb hr hlocks hP hK hD hS (Or.inl rfl) (fun _ => by rw [kr_ix_nI (by omega), if_neg (fun z => z.1 (h5.mp c15))]) dX1_holds_33
    · refine lv_aload_n hx hb dX1_holds_18 rfl (lv_at hl 0 rfl) ?_
      refine lv_iload_n hx hb dX1_holds_19 rfl (lv_at hl 1 rfl) ?_
      refine lv_iload_n hx hb dX1_holds_20 rfl (lv_at hl 2 rfl) ?_
      refine kr_vI (n := 2) (As := [.int (nI q), .int y]) (rest := []) ⟨hx, hb, hml, hown, hts⟩ (c_X1_giving l D cy h a (kr_cd (kr_i L (nI q)) (kr_o y) True) N L A q y hw (by omega)) kg_RX1_103 ⟨rfl, rfl⟩ (by decide +kernel) ⟨Nat.le_of_ble_eq_true rfl, Nat.le_of_ble_eq_true rfl⟩ (kr_pv1 hP hK) rfl hl.1 rfl (Nat.le_of_ble_eq_true rfl) dX1_holds_21 ⟨Nat.zero_le _, Nat.zero_le _⟩ (fun r9 e9 => ?_)
      subst e9
      refine lv_iconst (v := -1) hx hb dX1_holds_24 (by decide) ?_
      refine lv_icmp_ne (tgt := 32) hx hb dX1_holds_25 (by decide) (fun c25 => ?_) (fun c25 => ?_)
      · refine lv_iconst (v := 0) hx hb dX1_holds_32 (by decide) ?_
        exact kr_wZ hx hb hr hlocks hP hK hD hS (Or.inl rfl) (fun _ => by rw [kr_ix_nI (by omega), if_neg (fun z => c25 z.2)]) dX1_holds_33
      · refine lv_iconst (v := 1) hx hb dX1_holds_28 (by decide) ?_
        refine lv_goto (tgt := 33) hx hb dX1_holds_29 (by decide) ?_
        exact kr_wZ hx hb hr hlocks hP hK hD hS (Or.inr rfl) (fun _ => by rw [kr_ix_nI (by omega), if_pos ⟨fun z => c15 (h5.mpr z), c25⟩]) dX1_holds_33
