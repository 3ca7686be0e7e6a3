set_option maxHeartbeats 4000000 in
set_option maxRecDepth 100000 in
theorem c_X0_slot (l : Launch) (q pl : Nat) : Met l yX0_slot (Cond.code yX0_slot cX0_slot 2 (some .int) :: kr_all) ({ frames := 0, cells := 0, slots := 0, locals := 0 }) (va_Pc [.int (nI q), .int (nI pl)] (fun _ => True)) (vp_Si (fun r => r = nI (5 * q + pl))) 0 0 (fun _ => False) := by
  refine kr_of (by decide) (Nat.le_of_ble_eq_true rfl) ?_
  intro p e s m below meth c ls hx hb hml hr hts hown hlocks hin hv hl
  have hown : s.vm.findClass RX0 = some m.cls := hown
  have hl : lv_has ls 2 [(0, .int (nI q)), (1, .int (nI pl))] := hl
  refine lv_iload_n hx hb dX0_slot_0 rfl (lv_at hl 0 rfl) ?_
  refine lv_iconst (v := 5) hx hb dX0_slot_1 (by decide) ?_
  refine kr_imulN hx hb q 5 dX0_slot_2 ?_
  refine lv_iload_n hx hb dX0_slot_3 rfl (lv_at hl 1 rfl) ?_
  refine kr_iaddN hx hb (q * 5) pl dX0_slot_4 ?_
  exact kr_eI hx hb hr hlocks rfl (by rw [Nat.mul_comm]) dX0_slot_5
set_option maxHeartbeats 4000000 in
set_option maxRecDepth 100000 in
theorem c_X0_kindDueAt (l : Launch) (x : Int32) : Met l yX0_kindDueAt (Cond.code yX0_kindDueAt cX0_kindDueAt 1 (some .int) :: kr_all) ({ frames := 0, cells := 0, slots := 0, locals := 0 }) (va_Pc [.int x] (fun _ => True)) (vp_Si (fun r => r = if x = 0 then 1 else 0)) 0 0 (fun _ => False) := by
  refine kr_of (by decide) (Nat.le_of_ble_eq_true rfl) ?_
  intro p e s m below meth c ls hx hb hml hr hts hown hlocks hin hv hl
  have hown : s.vm.findClass RX0 = some m.cls := hown
  have hl : lv_has ls 1 [(0, .int x)] := hl
  refine lv_iload_n hx hb dX0_kindDueAt_0 rfl (lv_at hl 0 rfl) ?_
  refine lv_if_ne (tgt := 8) hx hb dX0_kindDueAt_1 (by decide) (fun c1 => ?_) (fun c1 => ?_)
  · refine lv_iconst (v := 0) hx hb dX0_kindDueAt_8 (by decide) ?_
    exact kr_eI hx hb hr hlocks rfl (if_neg c1).symm dX0_kindDueAt_9
  · refine lv_iconst (v := 1) hx hb dX0_kindDueAt_4 (by decide) ?_
    refine lv_goto (tgt := 9) hx hb dX0_kindDueAt_5 (by decide) ?_
    exact kr_eI hx hb hr hlocks rfl (if_pos c1).symm dX0_kindDueAt_9
set_option maxHeartbeats 4000000 in
set_option maxRecDepth 100000 in
theorem c_X0_isGone (l : Launch) (D : va_G) (cy : ClassId) (h : Nat) (a : Nat → Nat) (N L : Nat) (A : Nat → Nat → Int32) (q : Nat) (hq : q < 6) : Met l yX0_isGone (Cond.code yX0_isGone cX0_isGone 2 (some .boolean) :: kr_all) ({ frames := 0, cells := 0, slots := 0, locals := 0 }) (va_Pc [.ref h, .int (nI q)] (kr_R D (kr_W0 cy h a N L A) cy)) (vp_Si (fun r => r = if A 5 q = 0 then 1 else 0)) 0 0 (fun _ => False) := by
  refine kr_of (by decide) (Nat.le_of_ble_eq_true rfl) ?_
  intro p e s m below meth c ls hx hb hml hr hts hown hlocks hin hv hl
  obtain ⟨hP, hK⟩ := hv
  have hown : s.vm.findClass RX0 = some m.cls := hown
  have hl : lv_has ls 2 [(0, .ref h), (1, .int (nI q))] := hl
  refine lv_aload_n hx hb dX0_isGone_0 rfl (lv_at hl 0 rfl) ?_
  refine va_get (ci := 0) (v := .ref (a 5)) (C := RX0) (T := TX0) (N := 10) hx hb hts kr_wsX0 hown hK hP 0 rfl rfl 6 (by decide) (hts _ kq_48) (fun _ h9 => h9) rfl dX0_isGone_1 ?_
  refine lv_iload_n hx hb dX0_isGone_4 rfl (lv_at hl 1 rfl) ?_
  refine kr_ald hx hb hK hP 6 0 rfl rfl q (by omega) (by decide) dX0_isGone_5 ?_
  refine lv_if_ne (tgt := 13) hx hb dX0_isGone_6 (by decide) (fun c6 => ?_) (fun c6 => ?_)
  · refine lv_iconst (v := 0) hx hb dX0_isGone_13 (by decide) ?_
    exact kr_eZ hx hb hr hlocks rfl (Or.inl rfl) (if_neg c6).symm dX0_isGone_14
  · refine lv_iconst (v := 1) hx hb dX0_isGone_9 (by decide) ?_
    refine lv_goto (tgt := 14) hx hb dX0_isGone_10 (by decide) ?_
    exact kr_eZ hx hb hr hlocks rfl (Or.inr rfl) (if_pos c6).symm dX0_isGone_14
set_option maxHeartbeats 4000000 in
set_option maxRecDepth 100000 in
theorem c_X0_isKnot (l : Launch) (D : va_G) (cy : ClassId) (h : Nat) (a : Nat → Nat) (N L : Nat) (A : Nat → Nat → Int32) (x : Int32) : Met l yX0_isKnot (Cond.code yX0_isKnot cX0_isKnot 2 (some .boolean) :: kr_all) ({ frames := 0, cells := 0, slots := 0, locals := 0 }) (va_Pc [.ref h, .int x] (kr_R D (kr_W0 cy h a N L A) cy)) (vp_Si (fun r => r = if ¬ x < 0 ∧ ¬ nI N ≤ x then 1 else 0)) 0 0 (fun _ => False) := by
  refine kr_of (by decide) (Nat.le_of_ble_eq_true rfl) ?_
  intro p e s m below meth c ls hx hb hml hr hts hown hlocks hin hv hl
  obtain ⟨hP, hK⟩ := hv
  have hown : s.vm.findClass RX0 = some m.cls := hown
  have hl : lv_has ls 2 [(0, .ref h), (1, .int x)] := hl
  refine lv_iload_n hx hb dX0_isKnot_0 rfl (lv_at hl 1 rfl) ?_
  refine lv_if_lt (tgt := 16) hx hb dX0_isKnot_1 (by decide) (fun c1 => ?_) (fun c1 => ?_)
  · refine lv_iconst (v := 0) hx hb dX0_isKnot_16 (by decide) ?_
    exact kr_eZ hx hb hr hlocks rfl (Or.inl rfl) (if_neg (fun q => q.1 c1)).symm dX0_isKnot_17
  · refine lv_iload_n hx hb dX0_isKnot_4 rfl (lv_at hl 1 rfl) ?_
    refine lv_aload_n hx hb dX0_isKnot_5 rfl (lv_at hl 0 rfl) ?_
    refine va_get (ci := 0) (v := .int (nI N)) (C := RX0) (T := TX0) (N := 10) hx hb hts kr_wsX0 hown hK hP 0 rfl rfl 5 (by decide) (hts _ kq_47) (fun _ h9 => h9) rfl dX0_isKnot_6 ?_
    refine lv_icmp_ge (tgt := 16) hx hb dX0_isKnot_9 (by decide) (fun c9 => ?_) (fun c9 => ?_)
    · refine lv_iconst (v := 0) hx hb dX0_isKnot_16 (by decide) ?_
      exact kr_eZ hx hb hr hlocks rfl (Or.inl rfl) (if_neg (fun q => q.2 c9)).symm dX0_isKnot_17
    · refine lv_iconst (v := 1) hx hb dX0_isKnot_12 (by decide) ?_
      refine lv_goto (tgt := 17) hx hb dX0_isKnot_13 (by decide) ?_
      exact kr_eZ hx hb hr hlocks rfl (Or.inr rfl) (if_pos ⟨c1, c9⟩).symm dX0_isKnot_17
theorem kg_RX0_125 : GoodIn kr_all (wsV RX0 125 RX0 yX0_isKnot (Cond.code yX0_isKnot cX0_isKnot 2 (some .boolean) :: kr_all)) := kr_gV kq_159 kq_161 kq_4 kq_25 kq_162
set_option maxHeartbeats 4000000 in
set_option maxRecDepth 100000 in
theorem c_X0_spillsUnder (l : Launch) (D : va_G) (cy : ClassId) (h : Nat) (a : Nat → Nat) (N L : Nat) (A : Nat → Nat → Int32) (x ld : Int32) (hN : N ≤ 16) (hx0 : kr_kn N x) : Met l yX0_spillsUnder (Cond.code yX0_spillsUnder cX0_spillsUnder 3 (some .boolean) :: kr_all) ({ frames := 1, cells := 0, slots := 0, locals := 21 }) (va_Pc [.ref h, .int x, .int ld] (kr_R D (kr_W0 cy h a N L A) cy)) (vp_Si (fun r => r = if kr_go A ld x then 1 else 0)) 0 0 (fun _ => False) := by
  refine kr_of (by decide) (Nat.le_of_ble_eq_true rfl) ?_
  intro p e s m below meth c ls hx hb hml hr hts hown hlocks hin hv hl
  obtain ⟨hP, hK⟩ := hv
  have hown : s.vm.findClass RX0 = some m.cls := hown
  have hl : lv_has ls 3 [(0, .ref h), (1, .int x), (2, .int ld)] := hl
  refine lv_aload_n hx hb dX0_spillsUnder_0 rfl (lv_at hl 0 rfl) ?_
  refine lv_iload_n hx hb dX0_spillsUnder_1 rfl (lv_at hl 1 rfl) ?_
  refine kr_vI (n := 1) (As := [.int x]) (rest := []) ⟨hx, hb, hml, hown, hts⟩ (c_X0_isKnot l D cy h a N L A x) kg_RX0_125 ⟨rfl, rfl⟩ (by decide +kernel) ⟨Nat.le_of_ble_eq_true rfl, Nat.le_of_ble_eq_true rfl⟩ (kr_pv0 hP hK) rfl hl.1 rfl (Nat.le_of_ble_eq_true rfl) dX0_spillsUnder_2 ⟨Nat.zero_le _, Nat.zero_le _⟩ (fun r9 e9 => ?_)
  subst e9
  refine lv_if_eq (tgt := 31) hx hb dX0_spillsUnder_5 (by decide) (fun c5 => ?_) (fun c5 => ?_)
  · refine lv_iconst (v := 0) hx hb dX0_spillsUnder_31 (by decide) ?_
    exact kr_eZ hx hb hr hlocks rfl (Or.inl rfl) (if_neg (fun q => kr_if0 c5 (kr_isK2 hN hx0 q.1))).symm dX0_spillsUnder_32
  · obtain ⟨j, hj, rfl⟩ := kr_isK hN hx0 (kr_if1 c5)
    refine lv_aload_n hx hb dX0_spillsUnder_8 rfl (lv_at hl 0 rfl) ?_
    refine va_get (ci := 0) (v := .ref (a 3)) (C := RX0) (T := TX0) (N := 10) hx hb hts kr_wsX0 hown hK hP 0 rfl rfl 3 (by decide) (hts _ kq_45) (fun _ h9 => h9) rfl dX0_spillsUnder_9 ?_
    refine lv_iload_n hx hb dX0_spillsUnder_12 rfl (lv_at hl 1 rfl) ?_
    refine kr_ald hx hb hK hP 4 0 rfl rfl j (by omega) (by decide) dX0_spillsUnder_13 ?_
    refine lv_if_eq (tgt := 31) hx hb dX0_spillsUnder_14 (by decide) (fun c14 => ?_) (fun c14 => ?_)
    · refine lv_iconst (v := 0) hx hb dX0_spillsUnder_31 (by decide) ?_
      exact kr_eZ hx hb hr hlocks rfl (Or.inl rfl) (if_neg (fun q => ((kr_go_nI (by omega)).mp q).1 c14)).symm dX0_spillsUnder_32
    · refine lv_aload_n hx hb dX0_spillsUnder_17 rfl (lv_at hl 0 rfl) ?_
      refine va_get (ci := 0) (v := .ref (a 3)) (C := RX0) (T := TX0) (N := 10) hx hb hts kr_wsX0 hown hK hP 0 rfl rfl 3 (by decide) (hts _ kq_45) (fun _ h9 => h9) rfl dX0_spillsUnder_18 ?_
      refine lv_iload_n hx hb dX0_spillsUnder_21 rfl (lv_at hl 1 rfl) ?_
      refine kr_ald hx hb hK hP 4 0 rfl rfl j (by omega) (by decide) dX0_spillsUnder_22 ?_
      refine lv_iload_n hx hb dX0_spillsUnder_23 rfl (lv_at hl 2 rfl) ?_
      refine lv_icmp_gt (tgt := 31) hx hb dX0_spillsUnder_24 (by decide) (fun c24 => ?_) (fun c24 => ?_)
      · refine lv_iconst (v := 0) hx hb dX0_spillsUnder_31 (by decide) ?_
        exact kr_eZ hx hb hr hlocks rfl (Or.inl rfl) (if_neg (fun q => (kr_ngt c24) ((kr_go_nI (by omega)).mp q).2)).symm dX0_spillsUnder_32
      · refine lv_iconst (v := 1) hx hb dX0_spillsUnder_27 (by decide) ?_
        refine lv_goto (tgt := 32) hx hb dX0_spillsUnder_28 (by decide) ?_
        exact kr_eZ hx hb hr hlocks rfl (Or.inr rfl) (if_pos ((kr_go_nI (by omega)).mpr ⟨c14, kr_nlt c24⟩)).symm dX0_spillsUnder_32
theorem kg_RX0_121 : GoodIn kr_all (wsV RX0 121 RX0 yX0_spillsUnder (Cond.code yX0_spillsUnder cX0_spillsUnder 3 (some .boolean) :: kr_all)) := kr_gV kq_234 kq_236 kq_11 kq_25 kq_237
set_option maxHeartbeats 4000000 in
set_option maxRecDepth 100000 in
theorem c_X0_formUnder (l : Launch) (D : va_G) (cy : ClassId) (h : Nat) (a : Nat → Nat) (N L : Nat) (A : Nat → Nat → Int32) (x ld : Int32) (hw : kr_wf N L A) (hx0 : kr_kn N x) : Met l yX0_formUnder (Cond.code yX0_formUnder cX0_formUnder 5 (some .int) :: kr_all) ({ frames := 2, cells := 0, slots := 0, locals := 43 }) (va_Pc [.ref h, .int x, .int ld] (kr_R D (kr_W0 cy h a N L A) cy)) (vp_Si (fun r => r = kr_fm A ld 16 x)) 0 0 (fun _ => False) := by
  refine kr_of (by decide) (Nat.le_of_ble_eq_true rfl) ?_
  intro p e s m below meth c ls hx hb hml hr hts hown hlocks hin hv hl
  obtain ⟨hP, hK⟩ := hv
  have hown : s.vm.findClass RX0 = some m.cls := hown
  have hl : lv_has ls 5 [(0, .ref h), (1, .int x), (2, .int ld)] := hl
  have hN := hw.1
  refine lv_iload_n hx hb dX0_formUnder_0 rfl (lv_at hl 1 rfl) ?_
  refine lv_istore_n (lv' := [(3, .int x), (0, .ref h), (1, .int x), (2, .int ld)]) hx hb dX0_formUnder_1 rfl hl (by decide) rfl (fun ls hl => ?_)
  refine lv_iconst (v := 0) hx hb dX0_formUnder_2 (by decide) ?_
  refine lv_istore (lv' := [(4, .int 0), (3, .int x), (0, .ref h), (1, .int x), (2, .int ld)]) hx hb dX0_formUnder_3 hl (by decide) rfl (fun ls hl => ?_)
  refine kr_lp (nL := 5) (fun z : Nat × Int32 => [(4, .int (nI z.1)), (3, .int z.2), (0, .ref h), (1, .int x), (2, .int ld)]) (fun z => z.1 ≤ 16 ∧ kr_kn N z.2 ∧ kr_fm A ld (16 - z.1) z.2 = kr_fm A ld 16 x) (fun z => 16 - z.1) ?_ (0, x) ⟨by omega, hx0, rfl⟩ (lv_sub hl [0, 1, 2, 3, 4] rfl)
  clear hl
  intro z ls hI hl ih
  obtain ⟨i, f⟩ := z
  have hl : lv_has ls 5 [(4, .int (nI i)), (3, .int f), (0, .ref h), (1, .int x), (2, .int ld)] := hl
  obtain ⟨hi0, hf, he⟩ : i ≤ 16 ∧ kr_kn N f ∧ kr_fm A ld (16 - i) f = kr_fm A ld 16 x := hI
  refine lv_iload hx hb dX0_formUnder_5 (lv_at hl 0 rfl) ?_
  refine lv_bipush (v := 16) hx hb dX0_formUnder_7 (by decide) ?_
  refine lv_icmp_ge (tgt := 34) hx hb dX0_formUnder_9 (by decide) (fun c9 => ?_) (fun c9 => ?_)
  · have hi2 : i = 16 := by have := kr_ge (b := 16) (by omega) (by decide) c9; omega
    subst hi2
    refine lv_iload_n hx hb dX0_formUnder_34 rfl (lv_at hl 1 rfl) ?_
    exact kr_eI hx hb hr hlocks rfl he dX0_formUnder_35
  · have hi : i < 16 := kr_lt (b := 16) (by omega) (by decide) c9
    refine lv_aload_n hx hb dX0_formUnder_12 rfl (lv_at hl 2 rfl) ?_
    refine lv_iload_n hx hb dX0_formUnder_13 rfl (lv_at hl 1 rfl) ?_
    refine lv_iload_n hx hb dX0_formUnder_14 rfl (lv_at hl 4 rfl) ?_
    refine kr_vI (n := 2) (As := [.int f, .int ld]) (rest := []) ⟨hx, hb, hml, hown, hts⟩ (c_X0_spillsUnder l D cy h a N L A f ld hw.1 (by assumption)) kg_RX0_121 ⟨rfl, rfl⟩ (by decide +kernel) ⟨Nat.le_of_ble_eq_true rfl, Nat.le_of_ble_eq_true rfl⟩ (kr_pv0 hP hK) rfl hl.1 rfl (Nat.le_of_ble_eq_true rfl) dX0_formUnder_15 ⟨Nat.zero_le _, Nat.zero_le _⟩ (fun r9 e9 => ?_)
    subst e9
    refine lv_if_eq (tgt := 34) hx hb dX0_formUnder_18 (by decide) (fun c18 => ?_) (fun c18 => ?_)
    · refine lv_iload_n hx hb dX0_formUnder_34 rfl (lv_at hl 1 rfl) ?_
      exact kr_eI hx hb hr hlocks rfl ((kr_fm_no (kr_if0 c18) _).symm.trans he) dX0_formUnder_35
    · obtain ⟨j, hj, rfl⟩ := kr_go_kn hN hf (kr_if1 c18)
      refine lv_aload_n hx hb dX0_formUnder_21 rfl (lv_at hl 2 rfl) ?_
      refine va_get (ci := 0) (v := .ref (a 4)) (C := RX0) (T := TX0) (N := 10) hx hb hts kr_wsX0 hown hK hP 0 rfl rfl 4 (by decide) (hts _ kq_46) (fun _ h9 => h9) rfl dX0_formUnder_22 ?_
      refine lv_iload_n hx hb dX0_formUnder_25 rfl (lv_at hl 1 rfl) ?_
      refine kr_ald hx hb hK hP 5 0 rfl rfl j (by omega) (by decide) dX0_formUnder_26 ?_
      refine lv_istore_n (lv' := [(3, .int (A 4 j)), (4, .int (nI i)), (0, .ref h), (1, .int x), (2, .int ld)]) hx hb dX0_formUnder_27 rfl hl (by decide) rfl (fun ls hl => ?_)
      refine lv_iinc (v := nI (i + 1)) (lv' := [(4, .int (nI (i + 1))), (3, .int (A 4 j)), (0, .ref h), (1, .int x), (2, .int ld)]) hx hb dX0_formUnder_28 hl (k := 1) rfl (kr_inc _) (by decide) rfl (fun ls hl => ?_)
      refine lv_goto (tgt := 5) hx hb dX0_formUnder_31 (by decide) ?_
      exact ih (i + 1, A 4 j) ls ⟨by omega, hw.kn hj, (kr_fm_go hi (by omega) (kr_if1 c18)).symm.trans he⟩ (by show 16 - (i + 1) < 16 - i; omega) (lv_sub hl [0, 1, 2, 3, 4] rfl)
theorem kg_RX0_97 : GoodIn kr_all (wsS RX0 97 yX0_slot (Cond.code yX0_slot cX0_slot 2 (some .int) :: kr_all)) := kr_gS kq_187 kq_188 kq_25 kq_189
set_option maxHeartbeats 4000000 in
set_option maxRecDepth 100000 in
theorem c_X0_strengthWith (l : Launch) (D : va_G) (cy : ClassId) (h : Nat) (a : Nat → Nat) (N L : Nat) (A : Nat → Nat → Int32) (q pl k : Nat) (hq : q < 6) (hp : pl < 5) (hk : k < 16) : Met l yX0_strengthWith (Cond.code yX0_strengthWith cX0_strengthWith 5 (some .int) :: kr_all) ({ frames := 1, cells := 0, slots := 0, locals := 21 }) (va_Pc [.ref h, .int (nI q), .int (nI pl), .int (nI k)] (kr_R D (kr_W0 cy h a N L A) cy)) (vp_Si (fun r => r = kr_st A q pl (nI k))) 0 0 (fun _ => False) := by
  refine kr_of (by decide) (Nat.le_of_ble_eq_true rfl) ?_
  intro p e s m below meth c ls hx hb hml hr hts hown hlocks hin hv hl
  obtain ⟨hP, hK⟩ := hv
  have hown : s.vm.findClass RX0 = some m.cls := hown
  have hl : lv_has ls 5 [(0, .ref h), (1, .int (nI q)), (2, .int (nI pl)), (3, .int (nI k))] := hl
  refine lv_aload_n hx hb dX0_strengthWith_0 rfl (lv_at hl 0 rfl) ?_
  refine va_get (ci := 0) (v := .ref (a 7)) (C := RX0) (T := TX0) (N := 10) hx hb hts kr_wsX0 hown hK hP 0 rfl rfl 9 (by decide) (hts _ kq_51) (fun _ h9 => h9) rfl dX0_strengthWith_1 ?_
  refine lv_iload_n hx hb dX0_strengthWith_4 rfl (lv_at hl 1 rfl) ?_
  refine lv_iload_n hx hb dX0_strengthWith_5 rfl (lv_at hl 2 rfl) ?_
  refine kr_sI (n := 2) (As := [.int (nI q), .int (nI pl)]) (rest := [.ref (a 7)]) ⟨hx, hb, hml, hown, hts⟩ (c_X0_slot l q pl) kg_RX0_97 ⟨rfl, rfl⟩ (by decide +kernel) ⟨Nat.le_of_ble_eq_true rfl, Nat.le_of_ble_eq_true rfl⟩ ⟨kr_blT, fun U hU hW => ⟨rfl, trivial⟩⟩ rfl hl.1 rfl (Nat.le_of_ble_eq_true rfl) dX0_strengthWith_6 ⟨Nat.zero_le _, Nat.zero_le _⟩ (fun r9 e9 => ?_)
  subst e9
  refine kr_ald hx hb hK hP 8 0 rfl rfl (5 * q + pl) (by omega) (by decide) dX0_strengthWith_9 ?_
  refine lv_istore (lv' := [(4, .int (A 7 (5 * q + pl))), (0, .ref h), (1, .int (nI q)), (2, .int (nI pl)), (3, .int (nI k))]) hx hb dX0_strengthWith_10 hl (by decide) rfl (fun ls hl => ?_)
  refine lv_iload_n hx hb dX0_strengthWith_12 rfl (lv_at hl 3 rfl) ?_
  refine lv_if_le (tgt := 35) hx hb dX0_strengthWith_13 (by decide) (fun c13 => ?_) (fun c13 => ?_)
  · refine lv_iload hx hb dX0_strengthWith_35 (lv_at hl 0 rfl) ?_
    refine lv_aload_n hx hb dX0_strengthWith_37 rfl (lv_at hl 1 rfl) ?_
    refine va_get (ci := 0) (v := .ref (a 1)) (C := RX0) (T := TX0) (N := 10) hx hb hts kr_wsX0 hown hK hP 0 rfl rfl 1 (by decide) (hts _ kq_43) (fun _ h9 => h9) rfl dX0_strengthWith_38 ?_
    refine lv_iload_n hx hb dX0_strengthWith_41 rfl (lv_at hl 4 rfl) ?_
    refine kr_ald hx hb hK hP 2 0 rfl rfl k (by omega) (by decide) dX0_strengthWith_42 ?_
    refine lv_imul hx hb dX0_strengthWith_43 ?_
    refine lv_bipush (v := 100) hx hb dX0_strengthWith_44 (by decide) ?_
    refine lv_idiv hx hb dX0_strengthWith_46 (by decide) ?_
    exact kr_eI hx hb hr hlocks rfl (kr_st_0 (by have := kr_ge (a := 0) (b := pl) (by decide) (by omega) c13; omega) (by omega)).symm dX0_strengthWith_47
  · have hp0 : 0 < pl := kr_lt (a := 0) (by decide) (by omega) c13
    refine lv_iload hx hb dX0_strengthWith_16 (lv_at hl 0 rfl) ?_
    refine lv_aload_n hx hb dX0_strengthWith_18 rfl (lv_at hl 1 rfl) ?_
    refine va_get (ci := 0) (v := .ref (a 7)) (C := RX0) (T := TX0) (N := 10) hx hb hts kr_wsX0 hown hK hP 0 rfl rfl 9 (by decide) (hts _ kq_51) (fun _ h9 => h9) rfl dX0_strengthWith_19 ?_
    refine lv_iload_n hx hb dX0_strengthWith_22 rfl (lv_at hl 2 rfl) ?_
    refine lv_iload_n hx hb dX0_strengthWith_23 rfl (lv_at hl 3 rfl) ?_
    refine lv_iconst (v := 1) hx hb dX0_strengthWith_24 (by decide) ?_
    refine kr_isubN hx hb pl 1 (by omega) dX0_strengthWith_25 ?_
    refine kr_sI (n := 2) (As := [.int (nI q), .int (nI (pl - 1))]) (rest := [.ref (a 7), .int (A 7 (5 * q + pl))]) ⟨hx, hb, hml, hown, hts⟩ (c_X0_slot l q (pl - 1)) kg_RX0_97 ⟨rfl, rfl⟩ (by decide +kernel) ⟨Nat.le_of_ble_eq_true rfl, Nat.le_of_ble_eq_true rfl⟩ ⟨kr_blT, fun U hU hW => ⟨rfl, trivial⟩⟩ rfl hl.1 rfl (Nat.le_of_ble_eq_true rfl) dX0_strengthWith_26 ⟨Nat.zero_le _, Nat.zero_le _⟩ (fun r9 e9 => ?_)
    subst e9
    refine kr_ald hx hb hK hP 8 0 rfl rfl (5 * q + (pl - 1)) (by omega) (by decide) dX0_strengthWith_29 ?_
    refine va_mmin hx hb (hml.trans hl.1.symm) hown (hts _ kq_242) (hts _ kq_243) (hts _ kq_33) (hts _ kq_244) (Nat.le_of_ble_eq_true rfl) (Nat.le_of_ble_eq_true rfl) (Nat.zero_le _) (Nat.zero_le _) dX0_strengthWith_30 ?_
    show W _ _ _ _ _ _ _ _ _ _ _ _ _ _ _ (F0 _ _ _ (.int (kr_mn (A 7 (5 * q + pl)) (A 7 (5 * q + (pl - 1)))) :: _))
    refine lv_istore (lv' := [(4, .int (kr_mn (A 7 (5 * q + pl)) (A 7 (5 * q + (pl - 1))))), (0, .ref h), (1, .int (nI q)), (2, .int (nI pl)), (3, .int (nI k))]) hx hb dX0_strengthWith_33 hl (by decide) rfl (fun ls hl => ?_)
    refine lv_iload hx hb dX0_strengthWith_35 (lv_at hl 0 rfl) ?_
    refine lv_aload_n hx hb dX0_strengthWith_37 rfl (lv_at hl 1 rfl) ?_
    refine va_get (ci := 0) (v := .ref (a 1)) (C := RX0) (T := TX0) (N := 10) hx hb hts kr_wsX0 hown hK hP 0 rfl rfl 1 (by decide) (hts _ kq_43) (fun _ h9 => h9) rfl dX0_strengthWith_38 ?_
    refine lv_iload_n hx hb dX0_strengthWith_41 rfl (lv_at hl 4 rfl) ?_
    refine kr_ald hx hb hK hP 2 0 rfl rfl k (by omega) (by decide) dX0_strengthWith_42 ?_
    refine lv_imul hx hb dX0_strengthWith_43 ?_
    refine lv_bipush (v := 100) hx hb dX0_strengthWith_44 (by decide) ?_
    refine lv_idiv hx hb dX0_strengthWith_46 (by decide) ?_
    exact kr_eI hx hb hr hlocks rfl (by rw [kr_st_s (by omega) (by omega), show 5 * q + (pl - 1) = 5 * q + pl - 1 by omega]) dX0_strengthWith_47
theorem kg_RX0_223 : GoodIn kr_all (wsV RX0 223 RX0 yX0_strengthWith (Cond.code yX0_strengthWith cX0_strengthWith 5 (some .int) :: kr_all)) := kr_gV kq_238 kq_240 kq_12 kq_25 kq_241
set_option maxHeartbeats 4000000 in
set_option maxRecDepth 100000 in
theorem c_X0_currentStrength (l : Launch) (D : va_G) (cy : ClassId) (h : Nat) (a : Nat → Nat) (N L : Nat) (A : Nat → Nat → Int32) (q pl : Nat) (hw : kr_wf N L A) (hq : q < L) (hp : pl < kr_rc A q) : Met l yX0_currentStrength (Cond.code yX0_currentStrength cX0_currentStrength 3 (some .int) :: kr_all) ({ frames := 2, cells := 0, slots := 0, locals := 45 }) (va_Pc [.ref h, .int (nI q), .int (nI pl)] (kr_R D (kr_W0 cy h a N L A) cy)) (vp_Si (fun r => r = kr_nw A q pl)) 0 0 (fun _ => False) := by
  refine kr_of (by decide) (Nat.le_of_ble_eq_true rfl) ?_
  intro p e s m below meth c ls hx hb hml hr hts hown hlocks hin hv hl
  obtain ⟨hP, hK⟩ := hv
  have hown : s.vm.findClass RX0 = some m.cls := hown
  have hl : lv_has ls 3 [(0, .ref h), (1, .int (nI q)), (2, .int (nI pl))] := hl
  have hN := hw.1
  have hL := hw.2.1
  have hrc := (hw.rc hq).1
  refine lv_aload_n hx hb dX0_currentStrength_0 rfl (lv_at hl 0 rfl) ?_
  refine lv_iload_n hx hb dX0_currentStrength_1 rfl (lv_at hl 1 rfl) ?_
  refine lv_iload_n hx hb dX0_currentStrength_2 rfl (lv_at hl 2 rfl) ?_
  refine lv_aload_n hx hb dX0_currentStrength_3 rfl (lv_at hl 0 rfl) ?_
  refine va_get (ci := 0) (v := .ref (a 6)) (C := RX0) (T := TX0) (N := 10) hx hb hts kr_wsX0 hown hK hP 0 rfl rfl 8 (by decide) (hts _ kq_50) (fun _ h9 => h9) rfl dX0_currentStrength_4 ?_
  refine lv_iload_n hx hb dX0_currentStrength_7 rfl (lv_at hl 1 rfl) ?_
  refine lv_iload_n hx hb dX0_currentStrength_8 rfl (lv_at hl 2 rfl) ?_
  refine kr_sI (n := 2) (As := [.int (nI q), .int (nI pl)]) (rest := [.ref (a 6), .int (nI pl), .int (nI q), .ref h]) ⟨hx, hb, hml, hown, hts⟩ (c_X0_slot l q pl) kg_RX0_97 ⟨rfl, rfl⟩ (by decide +kernel) ⟨Nat.le_of_ble_eq_true rfl, Nat.le_of_ble_eq_true rfl⟩ ⟨kr_blT, fun U hU hW => ⟨rfl, trivial⟩⟩ rfl hl.1 rfl (Nat.le_of_ble_eq_true rfl) dX0_currentStrength_9 ⟨Nat.zero_le _, Nat.zero_le _⟩ (fun r9 e9 => ?_)
  subst e9
  refine kr_ald hx hb hK hP 7 0 rfl rfl (5 * q + pl) (by omega) (by decide) dX0_currentStrength_12 ?_
  obtain ⟨k, hk, ek⟩ := hw.tk hq hp
  rw [ek]
  refine kr_vI (n := 3) (As := [.int (nI q), .int (nI pl), .int (nI k)]) (rest := []) ⟨hx, hb, hml, hown, hts⟩ (c_X0_strengthWith l D cy h a N L A q pl k (by omega) (by omega) (by omega)) kg_RX0_223 ⟨rfl, rfl⟩ (by decide +kernel) ⟨Nat.le_of_ble_eq_true rfl, Nat.le_of_ble_eq_true rfl⟩ (kr_pv0 hP hK) rfl hl.1 rfl (Nat.le_of_ble_eq_true rfl) dX0_currentStrength_13 ⟨Nat.zero_le _, Nat.zero_le _⟩ (fun r9 e9 => ?_)
  subst e9
  exact kr_eI hx hb hr hlocks rfl (by unfold kr_nw; rw [ek]) dX0_currentStrength_16
theorem kg_RX0_104 : GoodIn kr_all (wsV RX0 104 RX0 yX0_formUnder (Cond.code yX0_formUnder cX0_formUnder 5 (some .int) :: kr_all)) := kr_gV kq_230 kq_232 kq_10 kq_25 kq_233
set_option maxHeartbeats 4000000 in
set_option maxRecDepth 100000 in
theorem c_X0_placeHolds (l : Launch) (D : va_G) (cy : ClassId) (h : Nat) (a : Nat → Nat) (N L : Nat) (A : Nat → Nat → Int32) (q pl : Nat) (ld : Int32) (hw : kr_wf N L A) (hq : q < L) (hp : pl < kr_rc A q) : Met l yX0_placeHolds (Cond.code yX0_placeHolds cX0_placeHolds 5 (some .boolean) :: kr_all) ({ frames := 3, cells := 0, slots := 0, locals := 67 }) (va_Pc [.ref h, .int (nI q), .int (nI pl), .int ld] (kr_R D (kr_W0 cy h a N L A) cy)) (vp_Si (fun r => r = if kr_ph A q ld pl then 1 else 0)) 0 0 (fun _ => False) := by
  refine kr_of (by decide) (Nat.le_of_ble_eq_true rfl) ?_
  intro p e s m below meth c ls hx hb hml hr hts hown hlocks hin hv hl
  obtain ⟨hP, hK⟩ := hv
  have hown : s.vm.findClass RX0 = some m.cls := hown
  have hl : lv_has ls 5 [(0, .ref h), (1, .int (nI q)), (2, .int (nI pl)), (3, .int ld)] := hl
  have hN := hw.1
  have hL := hw.2.1
  have hrc := (hw.rc hq).1
  refine lv_aload_n hx hb dX0_placeHolds_0 rfl (lv_at hl 0 rfl) ?_
  refine lv_aload_n hx hb dX0_placeHolds_1 rfl (lv_at hl 0 rfl) ?_
  refine va_get (ci := 0) (v := .ref (a 6)) (C := RX0) (T := TX0) (N := 10) hx hb hts kr_wsX0 hown hK hP 0 rfl rfl 8 (by decide) (hts _ kq_50) (fun _ h9 => h9) rfl dX0_placeHolds_2 ?_
  refine lv_iload_n hx hb dX0_placeHolds_5 rfl (lv_at hl 1 rfl) ?_
  refine lv_iload_n hx hb dX0_placeHolds_6 rfl (lv_at hl 2 rfl) ?_
  refine kr_sI (n := 2) (As := [.int (nI q), .int (nI pl)]) (rest := [.ref (a 6), .ref h]) ⟨hx, hb, hml, hown, hts⟩ (c_X0_slot l q pl) kg_RX0_97 ⟨rfl, rfl⟩ (by decide +kernel) ⟨Nat.le_of_ble_eq_true rfl, Nat.le_of_ble_eq_true rfl⟩ ⟨kr_blT, fun U hU hW => ⟨rfl, trivial⟩⟩ rfl hl.1 rfl (Nat.le_of_ble_eq_true rfl) dX0_placeHolds_7 ⟨Nat.zero_le _, Nat.zero_le _⟩ (fun r9 e9 => ?_)
  subst e9
  refine kr_ald hx hb hK hP 7 0 rfl rfl (5 * q + pl) (by omega) (by decide) dX0_placeHolds_10 ?_
  refine lv_iload_n hx hb dX0_placeHolds_11 rfl (lv_at hl 3 rfl) ?_
  refine kr_vI (n := 2) (As := [.int (A 6 (5 * q + pl)), .int ld]) (rest := []) ⟨hx, hb, hml, hown, hts⟩ (c_X0_formUnder l D cy h a N L A (A 6 (5 * q + pl)) ld hw (by first | assumption | exact Or.inr ⟨_, by assumption, rfl⟩ | exact hw.tn (by assumption) (by assumption))) kg_RX0_104 ⟨rfl, rfl⟩ (by decide +kernel) ⟨Nat.le_of_ble_eq_true rfl, Nat.le_of_ble_eq_true rfl⟩ (kr_pv0 hP hK) rfl hl.1 rfl (Nat.le_of_ble_eq_true rfl) dX0_placeHolds_12 ⟨Nat.zero_le _, Nat.zero_le _⟩ (fun r9 e9 => ?_)
  subst e9
  refine lv_topi (fun f ef => ?_)
  have hf : kr_kn N f := ef ▸ kr_fm_kn hw 16 _ (hw.tn hq hp)
  refine lv_istore (lv' := [(4, .int f), (0, .ref h), (1, .int (nI q)), (2, .int (nI pl)), (3, .int ld)]) hx hb dX0_placeHolds_15 hl (by decide) rfl (fun ls hl => ?_)
  refine lv_aload_n hx hb dX0_placeHolds_17 rfl (lv_at hl 1 rfl) ?_
  refine lv_iload hx hb dX0_placeHolds_18 (lv_at hl 0 rfl) ?_
  refine kr_vI (n := 1) (As := [.int f]) (rest := []) ⟨hx, hb, hml, hown, hts⟩ (c_X0_isKnot l D cy h a N L A f) kg_RX0_125 ⟨rfl, rfl⟩ (by decide +kernel) ⟨Nat.le_of_ble_eq_true rfl, Nat.le_of_ble_eq_true rfl⟩ (kr_pv0 hP hK) rfl hl.1 rfl (Nat.le_of_ble_eq_true rfl) dX0_placeHolds_20 ⟨Nat.zero_le _, Nat.zero_le _⟩ (fun r9 e9 => ?_)
  subst e9
  refine lv_if_eq (tgt := 42) hx hb dX0_placeHolds_23 (by decide) (fun c23 => ?_) (fun c23 => ?_)
  · refine lv_iconst (v := 0) hx hb dX0_placeHolds_42 (by decide) ?_
    exact kr_eZ hx hb hr hlocks rfl (Or.inl rfl) (if_neg (fun z => z.1 (ef ▸ kr_isK3 hN hf (kr_if0 c23)))).symm dX0_placeHolds_43
  · obtain ⟨k, hk, rfl⟩ := kr_isK hN hf (kr_if1 c23)
    refine lv_aload_n hx hb dX0_placeHolds_26 rfl (lv_at hl 1 rfl) ?_
    refine lv_iload_n hx hb dX0_placeHolds_27 rfl (lv_at hl 2 rfl) ?_
    refine lv_iload_n hx hb dX0_placeHolds_28 rfl (lv_at hl 3 rfl) ?_
    refine lv_iload hx hb dX0_placeHolds_29 (lv_at hl 0 rfl) ?_
    refine kr_vI (n := 3) (As := [.int (nI q), .int (nI pl), .int (nI k)]) (rest := []) ⟨hx, hb, hml, hown, hts⟩ (c_X0_strengthWith l D cy h a N L A q pl k (by omega) (by omega) (by omega)) kg_RX0_223 ⟨rfl, rfl⟩ (by decide +kernel) ⟨Nat.le_of_ble_eq_true rfl, Nat.le_of_ble_eq_true rfl⟩ (kr_pv0 hP hK) rfl hl.1 rfl (Nat.le_of_ble_eq_true rfl) dX0_placeHolds_31 ⟨Nat.zero_le _, Nat.zero_le _⟩ (fun r9 e9 => ?_)
    subst e9
    refine lv_iload_n hx hb dX0_placeHolds_34 rfl (lv_at hl 4 rfl) ?_
    refine lv_icmp_lt (tgt := 42) hx hb dX0_placeHolds_35 (by decide) (fun c35 => ?_) (fun c35 => ?_)
    · refine lv_iconst (v := 0) hx hb dX0_placeHolds_42 (by decide) ?_
      exact kr_eZ hx hb hr hlocks rfl (Or.inl rfl) (if_neg (fun z => kr_ngt c35 (by have := z.2; rw [← ef] at this; exact this))).symm dX0_placeHolds_43
    · refine lv_iconst (v := 1) hx hb dX0_placeHolds_38 (by decide) ?_
      refine lv_goto (tgt := 43) hx hb dX0_placeHolds_39 (by decide) ?_
      exact kr_eZ hx hb hr hlocks rfl (Or.inr rfl) (if_pos ⟨by rw [← ef]; exact kr_kn_ne (by omega), by rw [← ef]; exact kr_nlt c35⟩).symm dX0_placeHolds_43
theorem kg_RX0_226 : GoodIn kr_all (wsV RX0 226 RX0 yX0_placeHolds (Cond.code yX0_placeHolds cX0_placeHolds 5 (some .boolean) :: kr_all)) := kr_gV kq_226 kq_228 kq_9 kq_25 kq_229
set_option maxHeartbeats 4000000 in
set_option maxRecDepth 100000 in
theorem c_X0_firstPlaceToGiveWay (l : Launch) (D : va_G) (cy : ClassId) (h : Nat) (a : Nat → Nat) (N L : Nat) (A : Nat → Nat → Int32) (q : Nat) (ld : Int32) (hw : kr_wf N L A) (hq : q < L) : Met l yX0_firstPlaceToGiveWay (Cond.code yX0_firstPlaceToGiveWay cX0_firstPlaceToGiveWay 4 (some .int) :: kr_all) ({ frames := 4, cells := 0, slots := 0, locals := 91 }) (va_Pc [.ref h, .int (nI q), .int ld] (kr_R D (kr_W0 cy h a N L A) cy)) (vp_Si (fun r => r = kr_gw A q ld)) 0 0 (fun _ => False) := by
  refine kr_of (by decide) (Nat.le_of_ble_eq_true rfl) ?_
  intro p e s m below meth c ls hx hb hml hr hts hown hlocks hin hv hl
  obtain ⟨hP, hK⟩ := hv
  have hown : s.vm.findClass RX0 = some m.cls := hown
  have hl : lv_has ls 4 [(0, .ref h), (1, .int (nI q)), (2, .int ld)] := hl
  have hL := hw.2.1
  obtain ⟨hrc, er⟩ := hw.rc hq
  refine lv_iconst (v := 0) hx hb dX0_firstPlaceToGiveWay_0 (by decide) ?_
  refine lv_istore_n (lv' := [(3, .int 0), (0, .ref h), (1, .int (nI q)), (2, .int ld)]) hx hb dX0_firstPlaceToGiveWay_1 rfl hl (by decide) rfl (fun ls hl => ?_)
  refine kr_lp (nL := 4) (fun z : Nat => [(3, .int (nI z)), (0, .ref h), (1, .int (nI q)), (2, .int ld)]) (fun z => z ≤ kr_rc A q ∧ kr_fg A q ld (kr_rc A q - z) z = kr_gw A q ld) (fun z => kr_rc A q - z) ?_ (0) ⟨by omega, rfl⟩ (lv_sub hl [0, 1, 2, 3] rfl)
  clear hl
  intro z ls hI hl ih
  obtain ⟨i, rfl⟩ : ∃ y, y = z := ⟨_, rfl⟩
  have hl : lv_has ls 4 [(3, .int (nI i)), (0, .ref h), (1, .int (nI q)), (2, .int ld)] := hl
  obtain ⟨hi0, he⟩ : i ≤ kr_rc A q ∧ kr_fg A q ld (kr_rc A q - i) i = kr_gw A q ld := hI
  refine lv_iload_n hx hb dX0_firstPlaceToGiveWay_2 rfl (lv_at hl 0 rfl) ?_
  refine lv_aload_n hx hb dX0_firstPlaceToGiveWay_3 rfl (lv_at hl 1 rfl) ?_
  refine va_get (ci := 0) (v := .ref (a 5)) (C := RX0) (T := TX0) (N := 10) hx hb hts kr_wsX0 hown hK hP 0 rfl rfl 6 (by decide) (hts _ kq_48) (fun _ h9 => h9) rfl dX0_firstPlaceToGiveWay_4 ?_
  refine lv_iload_n hx hb dX0_firstPlaceToGiveWay_7 rfl (lv_at hl 2 rfl) ?_
  refine kr_ald hx hb hK hP 6 0 rfl rfl q (by omega) (by decide) dX0_firstPlaceToGiveWay_8 ?_
  rw [er]
  refine lv_icmp_ge (tgt := 30) hx hb dX0_firstPlaceToGiveWay_9 (by decide) (fun c9 => ?_) (fun c9 => ?_)
  · have hi2 : i = kr_rc A q := by have := kr_ge (by omega) (by omega) c9; omega
    subst hi2
    refine lv_iconst (v := -1) hx hb dX0_firstPlaceToGiveWay_30 (by decide) ?_
    exact kr_eI hx hb hr hlocks rfl (by rw [Nat.sub_self] at he; exact he) dX0_firstPlaceToGiveWay_31
  · have hi : i < kr_rc A q := kr_lt (by omega) (by omega) c9
    refine lv_aload_n hx hb dX0_firstPlaceToGiveWay_12 rfl (lv_at hl 1 rfl) ?_
    refine lv_iload_n hx hb dX0_firstPlaceToGiveWay_13 rfl (lv_at hl 2 rfl) ?_
    refine lv_iload_n hx hb dX0_firstPlaceToGiveWay_14 rfl (lv_at hl 0 rfl) ?_
    refine lv_iload_n hx hb dX0_firstPlaceToGiveWay_15 rfl (lv_at hl 3 rfl) ?_
    refine kr_vI (n := 3) (As := [.int (nI q), .int (nI i), .int ld]) (rest := []) ⟨hx, hb, hml, hown, hts⟩ (c_X0_placeHolds l D cy h a N L A q i ld hw (by omega) (by omega)) kg_RX0_226 ⟨rfl, rfl⟩ (by decide +kernel) ⟨Nat.le_of_ble_eq_true rfl, Nat.le_of_ble_eq_true rfl⟩ (kr_pv0 hP hK) rfl hl.1 rfl (Nat.le_of_ble_eq_true rfl) dX0_firstPlaceToGiveWay_16 ⟨Nat.zero_le _, Nat.zero_le _⟩ (fun r9 e9 => ?_)
    subst e9
    refine lv_if_ne (tgt := 24) hx hb dX0_firstPlaceToGiveWay_19 (by decide) (fun c19 => ?_) (fun c19 => ?_)
    · refine lv_iinc (v := nI (i + 1)) (lv' := [(3, .int (nI (i + 1))), (0, .ref h), (1, .int (nI q)), (2, .int ld)]) hx hb dX0_firstPlaceToGiveWay_24 hl (k := 0) rfl (kr_inc _) (by decide) rfl (fun ls hl => ?_)
      refine lv_goto (tgt := 2) hx hb dX0_firstPlaceToGiveWay_27 (by decide) ?_
      exact ih (i + 1) ls ⟨by omega, (kr_fg_s (kr_if1 c19) hi).symm.trans he⟩ (by show kr_rc A q - (i + 1) < kr_rc A q - i; omega) (lv_sub hl [0, 1, 2, 3] rfl)
    · refine lv_iload_n hx hb dX0_firstPlaceToGiveWay_22 rfl (lv_at hl 0 rfl) ?_
      exact kr_eI hx hb hr hlocks rfl ((kr_fg_no (kr_if0 c19) hi).symm.trans he) dX0_firstPlaceToGiveWay_23
set_option maxHeartbeats 4000000 in
set_option maxRecDepth 100000 in
theorem c_X0_loadHeldAt (l : Launch) (D : va_G) (cy : ClassId) (h : Nat) (a : Nat → Nat) (N L : Nat) (A : Nat → Nat → Int32) (q pl : Nat) (x : Int32) (hw : kr_wf N L A) (hq : q < 6) (hp : pl < 5) (hx0 : kr_kn N x) : Met l yX0_loadHeldAt (Cond.code yX0_loadHeldAt cX0_loadHeldAt 9 (some .int) :: kr_all) ({ frames := 2, cells := 0, slots := 0, locals := 45 }) (va_Pc [.ref h, .int (nI q), .int (nI pl), .int x] (kr_R D (kr_W0 cy h a N L A) cy)) (vp_Si (fun r => r = kr_lh A (kr_st A q pl) 16 x 0)) 0 0 (fun _ => False) := by
  refine kr_of (by decide) (Nat.le_of_ble_eq_true rfl) ?_
  intro p e s m below meth c ls hx hb hml hr hts hown hlocks hin hv hl
  obtain ⟨hP, hK⟩ := hv
  have hown : s.vm.findClass RX0 = some m.cls := hown
  have hl : lv_has ls 9 [(0, .ref h), (1, .int (nI q)), (2, .int (nI pl)), (3, .int x)] := hl
  have hN := hw.1
  refine lv_iconst (v := 0) hx hb dX0_loadHeldAt_0 (by decide) ?_
  refine lv_istore (lv' := [(4, .int 0), (0, .ref h), (1, .int (nI q)), (2, .int (nI pl)), (3, .int x)]) hx hb dX0_loadHeldAt_1 hl (by decide) rfl (fun ls hl => ?_)
  refine lv_iload_n hx hb dX0_loadHeldAt_3 rfl (lv_at hl 4 rfl) ?_
  refine lv_istore (lv' := [(5, .int x), (4, .int 0), (0, .ref h), (1, .int (nI q)), (2, .int (nI pl)), (3, .int x)]) hx hb dX0_loadHeldAt_4 hl (by decide) rfl (fun ls hl => ?_)
  refine lv_iconst (v := 0) hx hb dX0_loadHeldAt_6 (by decide) ?_
  refine lv_istore (lv' := [(6, .int 0), (5, .int x), (4, .int 0), (0, .ref h), (1, .int (nI q)), (2, .int (nI pl)), (3, .int x)]) hx hb dX0_loadHeldAt_7 hl (by decide) rfl (fun ls hl => ?_)
  refine kr_lp (nL := 9) (fun z : Nat × Int32 × Int32 => [(6, .int (nI z.1)), (5, .int z.2.1), (4, .int z.2.2), (0, .ref h), (1, .int (nI q)), (2, .int (nI pl)), (3, .int x)]) (fun z => z.1 ≤ 16 ∧ kr_kn N z.2.1 ∧ kr_lh A (kr_st A q pl) (16 - z.1) z.2.1 z.2.2 = kr_lh A (kr_st A q pl) 16 x 0) (fun z => 16 - z.1) ?_ (0, x, 0) ⟨by omega, hx0, rfl⟩ (lv_sub hl [0, 1, 2, 3, 4, 5, 6] rfl)
  clear hl
  intro z ls hI hl ih
  obtain ⟨i, f, g⟩ := z
  have hl : lv_has ls 9 [(6, .int (nI i)), (5, .int f), (4, .int g), (0, .ref h), (1, .int (nI q)), (2, .int (nI pl)), (3, .int x)] := hl
  obtain ⟨hi0, hf, he⟩ : i ≤ 16 ∧ kr_kn N f ∧ kr_lh A (kr_st A q pl) (16 - i) f g = kr_lh A (kr_st A q pl) 16 x 0 := hI
  refine lv_iload hx hb dX0_loadHeldAt_9 (lv_at hl 0 rfl) ?_
  refine lv_bipush (v := 16) hx hb dX0_loadHeldAt_11 (by decide) ?_
  refine lv_icmp_ge (tgt := 103) hx hb dX0_loadHeldAt_13 (by decide) (fun c13 => ?_) (fun c13 => ?_)
  · have hi2 : i = 16 := by have := kr_ge (b := 16) (by omega) (by decide) c13; omega
    subst hi2
    refine lv_iload hx hb dX0_loadHeldAt_103 (lv_at hl 2 rfl) ?_
    exact kr_eI hx hb hr hlocks rfl he dX0_loadHeldAt_105
  · have hi : i < 16 := kr_lt (b := 16) (by omega) (by decide) c13
    refine lv_aload_n hx hb dX0_loadHeldAt_16 rfl (lv_at hl 3 rfl) ?_
    refine lv_iload hx hb dX0_loadHeldAt_17 (lv_at hl 1 rfl) ?_
    refine kr_vI (n := 1) (As := [.int f]) (rest := []) ⟨hx, hb, hml, hown, hts⟩ (c_X0_isKnot l D cy h a N L A f) kg_RX0_125 ⟨rfl, rfl⟩ (by decide +kernel) ⟨Nat.le_of_ble_eq_true rfl, Nat.le_of_ble_eq_true rfl⟩ (kr_pv0 hP hK) rfl hl.1 rfl (Nat.le_of_ble_eq_true rfl) dX0_loadHeldAt_19 ⟨Nat.zero_le _, Nat.zero_le _⟩ (fun r9 e9 => ?_)
    subst e9
    refine lv_if_eq (tgt := 103) hx hb dX0_loadHeldAt_22 (by decide) (fun c22 => ?_) (fun c22 => ?_)
    · have hf2 := kr_isK3 hN hf (kr_if0 c22)
      subst hf2
      refine lv_iload hx hb dX0_loadHeldAt_103 (lv_at hl 2 rfl) ?_
      exact kr_eI hx hb hr hlocks rfl ((kr_lh_no _).symm.trans he) dX0_loadHeldAt_105
    · obtain ⟨j, hj, rfl⟩ := kr_isK hN hf (kr_if1 c22)
      rw [kr_lh_s hi (by omega)] at he
      have een := kr_en_nI (A := A) (j := j) (by omega)
      refine kr_jn (pcJ := 50) (stJ := []) (fun v => v = kr_en A (nI j)) (fun w ew => ?_) (fun J => ?_)
      · rw [← ew] at he
        refine lv_istore (lv' := [(7, .int w), (6, .int (nI i)), (5, .int (nI j)), (4, .int g), (0, .ref h), (1, .int (nI q)), (2, .int (nI pl)), (3, .int x)]) hx hb dX0_loadHeldAt_50 hl (by decide) rfl (fun ls hl => ?_)
        refine lv_iload hx hb dX0_loadHeldAt_52 (lv_at hl 0 rfl) ?_
        refine lv_iload hx hb dX0_loadHeldAt_54 (lv_at hl 3 rfl) ?_
        refine lv_icmp_le (tgt := 88) hx hb dX0_loadHeldAt_56 (by decide) (fun c56 => ?_) (fun c56 => ?_)
        · rw [if_neg (kr_ngt2 c56)] at he
          refine lv_aload_n hx hb dX0_loadHeldAt_88 rfl (lv_at hl 4 rfl) ?_
          refine va_get (ci := 0) (v := .ref (a 4)) (C := RX0) (T := TX0) (N := 10) hx hb hts kr_wsX0 hown hK hP 0 rfl rfl 4 (by decide) (hts _ kq_46) (fun _ h9 => h9) rfl dX0_loadHeldAt_89 ?_
          refine lv_iload hx hb dX0_loadHeldAt_92 (lv_at hl 2 rfl) ?_
          refine kr_ald hx hb hK hP 5 0 rfl rfl j (by omega) (by decide) dX0_loadHeldAt_94 ?_
          refine lv_istore (lv' := [(5, .int (A 4 j)), (7, .int w), (6, .int (nI i)), (4, .int g), (0, .ref h), (1, .int (nI q)), (2, .int (nI pl)), (3, .int x)]) hx hb dX0_loadHeldAt_95 hl (by decide) rfl (fun ls hl => ?_)
          refine lv_iinc (v := nI (i + 1)) (lv' := [(6, .int (nI (i + 1))), (5, .int (A 4 j)), (7, .int w), (4, .int g), (0, .ref h), (1, .int (nI q)), (2, .int (nI pl)), (3, .int x)]) hx hb dX0_loadHeldAt_97 hl (k := 2) rfl (kr_inc _) (by decide) rfl (fun ls hl => ?_)
          refine lv_goto (tgt := 9) hx hb dX0_loadHeldAt_100 (by decide) ?_
          exact ih (i + 1, A 4 j, g) ls ⟨by omega, hw.kn hj, he⟩ (by show 16 - (i + 1) < 16 - i; omega) (lv_sub hl [0, 1, 3, 4, 5, 6, 7] rfl)
        · rw [if_pos (kr_nle2 c56)] at he
          refine lv_aload_n hx hb dX0_loadHeldAt_59 rfl (lv_at hl 4 rfl) ?_
          refine lv_iload_n hx hb dX0_loadHeldAt_60 rfl (lv_at hl 5 rfl) ?_
          refine lv_iload_n hx hb dX0_loadHeldAt_61 rfl (lv_at hl 6 rfl) ?_
          refine lv_iload hx hb dX0_loadHeldAt_62 (lv_at hl 2 rfl) ?_
          refine kr_vI (n := 3) (As := [.int (nI q), .int (nI pl), .int (nI j)]) (rest := []) ⟨hx, hb, hml, hown, hts⟩ (c_X0_strengthWith l D cy h a N L A q pl j (by omega) (by omega) (by omega)) kg_RX0_223 ⟨rfl, rfl⟩ (by decide +kernel) ⟨Nat.le_of_ble_eq_true rfl, Nat.le_of_ble_eq_true rfl⟩ (kr_pv0 hP hK) rfl hl.1 rfl (Nat.le_of_ble_eq_true rfl) dX0_loadHeldAt_64 ⟨Nat.zero_le _, Nat.zero_le _⟩ (fun r9 e9 => ?_)
          subst e9
          refine lv_istore (lv' := [(8, .int (kr_st A q pl (nI j))), (7, .int w), (6, .int (nI i)), (5, .int (nI j)), (4, .int g), (0, .ref h), (1, .int (nI q)), (2, .int (nI pl)), (3, .int x)]) hx hb dX0_loadHeldAt_67 hl (by decide) rfl (fun ls hl => ?_)
          refine lv_iload hx hb dX0_loadHeldAt_69 (lv_at hl 0 rfl) ?_
          refine lv_iload hx hb dX0_loadHeldAt_71 (lv_at hl 1 rfl) ?_
          refine lv_icmp_ge (tgt := 84) hx hb dX0_loadHeldAt_73 (by decide) (fun c73 => ?_) (fun c73 => ?_)
          · rw [if_neg (kr_ngt2 c73)] at he
            refine lv_iload hx hb dX0_loadHeldAt_84 (lv_at hl 1 rfl) ?_
            refine lv_istore (lv' := [(4, .int w), (8, .int (kr_st A q pl (nI j))), (7, .int w), (6, .int (nI i)), (5, .int (nI j)), (0, .ref h), (1, .int (nI q)), (2, .int (nI pl)), (3, .int x)]) hx hb dX0_loadHeldAt_86 hl (by decide) rfl (fun ls hl => ?_)
            refine lv_aload_n hx hb dX0_loadHeldAt_88 rfl (lv_at hl 5 rfl) ?_
            refine va_get (ci := 0) (v := .ref (a 4)) (C := RX0) (T := TX0) (N := 10) hx hb hts kr_wsX0 hown hK hP 0 rfl rfl 4 (by decide) (hts _ kq_46) (fun _ h9 => h9) rfl dX0_loadHeldAt_89 ?_
            refine lv_iload hx hb dX0_loadHeldAt_92 (lv_at hl 4 rfl) ?_
            refine kr_ald hx hb hK hP 5 0 rfl rfl j (by omega) (by decide) dX0_loadHeldAt_94 ?_
            refine lv_istore (lv' := [(5, .int (A 4 j)), (4, .int w), (8, .int (kr_st A q pl (nI j))), (7, .int w), (6, .int (nI i)), (0, .ref h), (1, .int (nI q)), (2, .int (nI pl)), (3, .int x)]) hx hb dX0_loadHeldAt_95 hl (by decide) rfl (fun ls hl => ?_)
            refine lv_iinc (v := nI (i + 1)) (lv' := [(6, .int (nI (i + 1))), (5, .int (A 4 j)), (4, .int w), (8, .int (kr_st A q pl (nI j))), (7, .int w), (0, .ref h), (1, .int (nI q)), (2, .int (nI pl)), (3, .int x)]) hx hb dX0_loadHeldAt_97 hl (k := 4) rfl (kr_inc _) (by decide) rfl (fun ls hl => ?_)
            refine lv_goto (tgt := 9) hx hb dX0_loadHeldAt_100 (by decide) ?_
            exact ih (i + 1, A 4 j, w) ls ⟨by omega, hw.kn hj, he⟩ (by show 16 - (i + 1) < 16 - i; omega) (lv_sub hl [0, 1, 2, 5, 6, 7, 8] rfl)
          · rw [if_pos (kr_nle2 c73)] at he
            refine lv_iload hx hb dX0_loadHeldAt_76 (lv_at hl 4 rfl) ?_
            refine lv_iload hx hb dX0_loadHeldAt_78 (lv_at hl 0 rfl) ?_
            refine va_mmax hx hb (hml.trans hl.1.symm) hown (hts _ kq_310) (hts _ kq_311) (hts _ kq_33) (hts _ kq_312) (Nat.le_of_ble_eq_true rfl) (Nat.le_of_ble_eq_true rfl) (Nat.zero_le _) (Nat.zero_le _) dX0_loadHeldAt_80 ?_
            show W _ _ _ _ _ _ _ _ _ _ _ _ _ _ _ (F0 _ _ _ (.int (kr_mx g (kr_st A q pl (nI j))) :: _))
            exact kr_eI hx hb hr hlocks rfl he dX0_loadHeldAt_83
      · refine lv_aload_n hx hb dX0_loadHeldAt_25 rfl (lv_at hl 3 rfl) ?_
        refine va_get (ci := 0) (v := .ref (a 3)) (C := RX0) (T := TX0) (N := 10) hx hb hts kr_wsX0 hown hK hP 0 rfl rfl 3 (by decide) (hts _ kq_45) (fun _ h9 => h9) rfl dX0_loadHeldAt_26 ?_
        refine lv_iload hx hb dX0_loadHeldAt_29 (lv_at hl 1 rfl) ?_
        refine kr_ald hx hb hK hP 4 0 rfl rfl j (by omega) (by decide) dX0_loadHeldAt_31 ?_
        refine lv_if_ne (tgt := 41) hx hb dX0_loadHeldAt_32 (by decide) (fun c32 => ?_) (fun c32 => ?_)
        · refine lv_aload_n hx hb dX0_loadHeldAt_41 rfl (lv_at hl 3 rfl) ?_
          refine va_get (ci := 0) (v := .ref (a 3)) (C := RX0) (T := TX0) (N := 10) hx hb hts kr_wsX0 hown hK hP 0 rfl rfl 3 (by decide) (hts _ kq_45) (fun _ h9 => h9) rfl dX0_loadHeldAt_42 ?_
          refine lv_iload hx hb dX0_loadHeldAt_45 (lv_at hl 1 rfl) ?_
          refine kr_ald hx hb hK hP 4 0 rfl rfl j (by omega) (by decide) dX0_loadHeldAt_47 ?_
          refine lv_iconst (v := 1) hx hb dX0_loadHeldAt_48 (by decide) ?_
          refine lv_isub hx hb dX0_loadHeldAt_49 ?_
          exact J _ (by rw [een, if_neg c32])
        · refine lv_sipush (v := 999) hx hb dX0_loadHeldAt_35 (by decide) ?_
          refine lv_goto (tgt := 50) hx hb dX0_loadHeldAt_38 (by decide) ?_
          exact J _ (by rw [een, if_pos c32])
theorem kg_RX0_140 : GoodIn kr_all (wsV RX0 140 RX0 yX0_isGone (Cond.code yX0_isGone cX0_isGone 2 (some .boolean) :: kr_all)) := kr_gV kq_202 kq_204 kq_7 kq_25 kq_205
theorem kg_RX0_230 : GoodIn kr_all (wsV RX0 230 RX0 yX0_loadHeldAt (Cond.code yX0_loadHeldAt cX0_loadHeldAt 9 (some .int) :: kr_all)) := kr_gV kq_350 kq_352 kq_19 kq_25 kq_353
set_option maxHeartbeats 4000000 in
set_option maxRecDepth 100000 in
theorem c_X0_loadHeldWith (l : Launch) (D : va_G) (cy : ClassId) (h : Nat) (a : Nat → Nat) (N L : Nat) (A : Nat → Nat → Int32) (q : Nat) (z0 kn : Int32) (hw : kr_wf N L A) (hq : q < L) (hkn : kr_kn N kn) : Met l yX0_loadHeldWith (Cond.code yX0_loadHeldWith cX0_loadHeldWith 7 (some .int) :: kr_all) ({ frames := 3, cells := 0, slots := 0, locals := 73 }) (va_Pc [.ref h, .int (nI q), .int z0, .int kn] (kr_R D (kr_W0 cy h a N L A) cy)) (vp_Si (fun r => r = kr_lu A q z0 kn)) 0 0 (fun _ => False) := by
  refine kr_of (by decide) (Nat.le_of_ble_eq_true rfl) ?_
  intro p e s m below meth c ls hx hb hml hr hts hown hlocks hin hv hl
  obtain ⟨hP, hK⟩ := hv
  have hown : s.vm.findClass RX0 = some m.cls := hown
  have hl : lv_has ls 7 [(0, .ref h), (1, .int (nI q)), (2, .int z0), (3, .int kn)] := hl
  have hN := hw.1
  have hL := hw.2.1
  obtain ⟨hrc, er⟩ := hw.rc hq
  refine lv_aload_n hx hb dX0_loadHeldWith_0 rfl (lv_at hl 0 rfl) ?_
  refine lv_iload_n hx hb dX0_loadHeldWith_1 rfl (lv_at hl 1 rfl) ?_
  refine kr_vI (n := 1) (As := [.int (nI q)]) (rest := []) ⟨hx, hb, hml, hown, hts⟩ (c_X0_isGone l D cy h a N L A q (by omega)) kg_RX0_140 ⟨rfl, rfl⟩ (by decide +kernel) ⟨Nat.le_of_ble_eq_true rfl, Nat.le_of_ble_eq_true rfl⟩ (kr_pv0 hP hK) rfl hl.1 rfl (Nat.le_of_ble_eq_true rfl) dX0_loadHeldWith_2 ⟨Nat.zero_le _, Nat.zero_le _⟩ (fun r9 e9 => ?_)
  subst e9
  refine lv_if_eq (tgt := 10) hx hb dX0_loadHeldWith_5 (by decide) (fun c5 => ?_) (fun c5 => ?_)
  · refine lv_sipush (v := 999) hx hb dX0_loadHeldWith_10 (by decide) ?_
    refine lv_istore (lv' := [(4, .int 999), (0, .ref h), (1, .int (nI q)), (2, .int z0), (3, .int kn)]) hx hb dX0_loadHeldWith_13 hl (by decide) rfl (fun ls hl => ?_)
    refine lv_iconst (v := 0) hx hb dX0_loadHeldWith_15 (by decide) ?_
    refine lv_istore (lv' := [(5, .int 0), (4, .int 999), (0, .ref h), (1, .int (nI q)), (2, .int z0), (3, .int kn)]) hx hb dX0_loadHeldWith_16 hl (by decide) rfl (fun ls hl => ?_)
    refine kr_lp (nL := 7) (fun z : Nat × Int32 => [(5, .int (nI z.1)), (4, .int z.2), (0, .ref h), (1, .int (nI q)), (2, .int z0), (3, .int kn)]) (fun z => z.1 ≤ kr_rc A q ∧ kr_lw A q z0 kn (kr_rc A q - z.1) z.1 z.2 = kr_lu A q z0 kn) (fun z => kr_rc A q - z.1) ?_ (0, 999) ⟨by omega, (if_neg (kr_if0 c5)).symm⟩ (lv_sub hl [0, 1, 2, 3, 4, 5] rfl)
    clear hl
    intro z ls hI hl ih
    obtain ⟨i, g⟩ := z
    have hl : lv_has ls 7 [(5, .int (nI i)), (4, .int g), (0, .ref h), (1, .int (nI q)), (2, .int z0), (3, .int kn)] := hl
    obtain ⟨hi0, he⟩ : i ≤ kr_rc A q ∧ kr_lw A q z0 kn (kr_rc A q - i) i g = kr_lu A q z0 kn := hI
    refine lv_iload hx hb dX0_loadHeldWith_18 (lv_at hl 0 rfl) ?_
    refine lv_aload_n hx hb dX0_loadHeldWith_20 rfl (lv_at hl 2 rfl) ?_
    refine va_get (ci := 0) (v := .ref (a 5)) (C := RX0) (T := TX0) (N := 10) hx hb hts kr_wsX0 hown hK hP 0 rfl rfl 6 (by decide) (hts _ kq_48) (fun _ h9 => h9) rfl dX0_loadHeldWith_21 ?_
    refine lv_iload_n hx hb dX0_loadHeldWith_24 rfl (lv_at hl 3 rfl) ?_
    refine kr_ald hx hb hK hP 6 0 rfl rfl q (by omega) (by decide) dX0_loadHeldWith_25 ?_
    rw [er]
    refine lv_icmp_ge (tgt := 74) hx hb dX0_loadHeldWith_26 (by decide) (fun c26 => ?_) (fun c26 => ?_)
    · have hi2 : i = kr_rc A q := by have := kr_ge (by omega) (by omega) c26; omega
      subst hi2
      refine lv_iload hx hb dX0_loadHeldWith_74 (lv_at hl 1 rfl) ?_
      exact kr_eI hx hb hr hlocks rfl (by rw [Nat.sub_self] at he; exact he) dX0_loadHeldWith_76
    · have hi : i < kr_rc A q := kr_lt (by omega) (by omega) c26
      rw [kr_lw_s hi] at he
      refine kr_jn (pcJ := 50) (stJ := []) (fun v => v = if nI i = z0 then kn else A 6 (5 * q + i)) (fun w ew => ?_) (fun J => ?_)
      · rw [← ew] at he
        have hwk : kr_kn N w := by rw [ew]; split; exact hkn; exact hw.tn hq hi
        refine lv_istore (lv' := [(6, .int w), (5, .int (nI i)), (4, .int g), (0, .ref h), (1, .int (nI q)), (2, .int z0), (3, .int kn)]) hx hb dX0_loadHeldWith_50 hl (by decide) rfl (fun ls hl => ?_)
        refine lv_iload hx hb dX0_loadHeldWith_52 (lv_at hl 2 rfl) ?_
        refine lv_aload_n hx hb dX0_loadHeldWith_54 rfl (lv_at hl 3 rfl) ?_
        refine lv_iload_n hx hb dX0_loadHeldWith_55 rfl (lv_at hl 4 rfl) ?_
        refine lv_iload hx hb dX0_loadHeldWith_56 (lv_at hl 1 rfl) ?_
        refine lv_iload hx hb dX0_loadHeldWith_58 (lv_at hl 0 rfl) ?_
        refine kr_vI (n := 3) (As := [.int (nI q), .int (nI i), .int w]) (rest := [.int g]) ⟨hx, hb, hml, hown, hts⟩ (c_X0_loadHeldAt l D cy h a N L A q i w hw (by omega) (by omega) (by assumption)) kg_RX0_230 ⟨rfl, rfl⟩ (by decide +kernel) ⟨Nat.le_of_ble_eq_true rfl, Nat.le_of_ble_eq_true rfl⟩ (kr_pv0 hP hK) rfl hl.1 rfl (Nat.le_of_ble_eq_true rfl) dX0_loadHeldWith_60 ⟨Nat.zero_le _, Nat.zero_le _⟩ (fun r9 e9 => ?_)
        subst e9
        refine va_mmin hx hb (hml.trans hl.1.symm) hown (hts _ kq_242) (hts _ kq_243) (hts _ kq_33) (hts _ kq_244) (Nat.le_of_ble_eq_true rfl) (Nat.le_of_ble_eq_true rfl) (Nat.zero_le _) (Nat.zero_le _) dX0_loadHeldWith_63 ?_
        show W _ _ _ _ _ _ _ _ _ _ _ _ _ _ _ (F0 _ _ _ (.int (kr_mn g (kr_lh A (kr_st A q i) 16 w 0)) :: _))
        refine lv_istore (lv' := [(4, .int (kr_mn g (kr_lh A (kr_st A q i) 16 w 0))), (6, .int w), (5, .int (nI i)), (0, .ref h), (1, .int (nI q)), (2, .int z0), (3, .int kn)]) hx hb dX0_loadHeldWith_66 hl (by decide) rfl (fun ls hl => ?_)
        refine lv_iinc (v := nI (i + 1)) (lv' := [(5, .int (nI (i + 1))), (4, .int (kr_mn g (kr_lh A (kr_st A q i) 16 w 0))), (6, .int w), (0, .ref h), (1, .int (nI q)), (2, .int z0), (3, .int kn)]) hx hb dX0_loadHeldWith_68 hl (k := 2) rfl (kr_inc _) (by decide) rfl (fun ls hl => ?_)
        refine lv_goto (tgt := 18) hx hb dX0_loadHeldWith_71 (by decide) ?_
        exact ih (i + 1, kr_mn g (kr_lh A (kr_st A q i) 16 w 0)) ls ⟨by omega, he⟩ (by show kr_rc A q - (i + 1) < kr_rc A q - i; omega) (lv_sub hl [0, 1, 3, 4, 5, 6] rfl)
      · refine lv_iload hx hb dX0_loadHeldWith_29 (lv_at hl 0 rfl) ?_
        refine lv_iload_n hx hb dX0_loadHeldWith_31 rfl (lv_at hl 4 rfl) ?_
        refine lv_icmp_ne (tgt := 39) hx hb dX0_loadHeldWith_32 (by decide) (fun c32 => ?_) (fun c32 => ?_)
        · refine lv_aload_n hx hb dX0_loadHeldWith_39 rfl (lv_at hl 2 rfl) ?_
          refine va_get (ci := 0) (v := .ref (a 6)) (C := RX0) (T := TX0) (N := 10) hx hb hts kr_wsX0 hown hK hP 0 rfl rfl 8 (by decide) (hts _ kq_50) (fun _ h9 => h9) rfl dX0_loadHeldWith_40 ?_
          refine lv_iload_n hx hb dX0_loadHeldWith_43 rfl (lv_at hl 3 rfl) ?_
          refine lv_iload hx hb dX0_loadHeldWith_44 (lv_at hl 0 rfl) ?_
          refine kr_sI (n := 2) (As := [.int (nI q), .int (nI i)]) (rest := [.ref (a 6)]) ⟨hx, hb, hml, hown, hts⟩ (c_X0_slot l q i) kg_RX0_97 ⟨rfl, rfl⟩ (by decide +kernel) ⟨Nat.le_of_ble_eq_true rfl, Nat.le_of_ble_eq_true rfl⟩ ⟨kr_blT, fun U hU hW => ⟨rfl, trivial⟩⟩ rfl hl.1 rfl (Nat.le_of_ble_eq_true rfl) dX0_loadHeldWith_46 ⟨Nat.zero_le _, Nat.zero_le _⟩ (fun r9 e9 => ?_)
          subst e9
          refine kr_ald hx hb hK hP 7 0 rfl rfl (5 * q + i) (by omega) (by decide) dX0_loadHeldWith_49 ?_
          exact J _ (if_neg c32).symm
        · refine lv_iload_n hx hb dX0_loadHeldWith_35 rfl (lv_at hl 5 rfl) ?_
          refine lv_goto (tgt := 50) hx hb dX0_loadHeldWith_36 (by decide) ?_
          exact J _ (if_pos c32).symm
  · refine lv_iconst (v := 0) hx hb dX0_loadHeldWith_8 (by decide) ?_
    exact kr_eI hx hb hr hlocks rfl (if_pos (kr_if1 c5)).symm dX0_loadHeldWith_9
