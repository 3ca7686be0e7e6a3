set_option maxHeartbeats 4000000 in
set_option maxRecDepth 100000 in
theorem c_X0_countOfKind (l : Launch) (D : va_G) (cy : ClassId) (h : Nat) (a : Nat → Nat) (N L : Nat) (A : Nat → Nat → Int32) (kd : Int32) (hN : N ≤ 16) : Met l yX0_countOfKind (Cond.code yX0_countOfKind cX0_countOfKind 4 (some .int) :: kr_all) ({ frames := 0, cells := 0, slots := 0, locals := 0 }) (va_Pc [.ref h, .int kd] (kr_R D (kr_W0 cy h a N L A) cy)) (vp_Si (fun r => r = nI (kr_cn A kd N))) 0 0 (fun _ => False) := by
  refine kr_of (by decide) (Nat.le_of_ble_eq_true rfl) ?_
  intro p e s m below meth c ls hx hb hml hr hts hown hlocks hin hv hl
  obtain ⟨hP, hK⟩ := hv
  have hown : s.vm.findClass RX0 = some m.cls := hown
  have hl : lv_has ls 4 [(0, .ref h), (1, .int kd)] := hl
  refine lv_iconst (v := 0) hx hb dX0_countOfKind_0 (by decide) ?_
  refine lv_istore_n (lv' := [(2, .int 0), (0, .ref h), (1, .int kd)]) hx hb dX0_countOfKind_1 rfl hl (by decide) rfl (fun ls hl => ?_)
  refine lv_iconst (v := 0) hx hb dX0_countOfKind_2 (by decide) ?_
  refine lv_istore_n (lv' := [(3, .int 0), (2, .int 0), (0, .ref h), (1, .int kd)]) hx hb dX0_countOfKind_3 rfl hl (by decide) rfl (fun ls hl => ?_)
  refine kr_lp (nL := 4) (fun z : Nat × Nat => [(3, .int (nI z.1)), (2, .int (nI z.2)), (0, .ref h), (1, .int kd)]) (fun z => z.1 ≤ N ∧ z.2 = kr_cn A kd z.1) (fun z => N - z.1) ?_ (0, 0) ⟨by omega, rfl⟩ (lv_sub hl [0, 1, 2, 3] rfl)
  clear hl
  intro z ls hI hl ih
  obtain ⟨i, g⟩ := z
  have hl : lv_has ls 4 [(3, .int (nI i)), (2, .int (nI g)), (0, .ref h), (1, .int kd)] := hl
  obtain ⟨hi0, hg⟩ : i ≤ N ∧ g = kr_cn A kd i := hI
  refine lv_iload_n hx hb dX0_countOfKind_4 rfl (lv_at hl 0 rfl) ?_
  refine lv_aload_n hx hb dX0_countOfKind_5 rfl (lv_at hl 2 rfl) ?_
  refine va_get (ci := 0) (v := .int (nI N)) (C := RX0) (T := TX0) (N := 10) hx hb hts kr_wsX0 hown hK hP 0 rfl rfl 5 (by decide) (hts _ kq_47) (fun _ h9 => h9) rfl dX0_countOfKind_6 ?_
  refine lv_icmp_ge (tgt := 31) hx hb dX0_countOfKind_9 (by decide) (fun c9 => ?_) (fun c9 => ?_)
  · have hi2 : i = N := by have := kr_ge (by omega) (by omega) c9; omega
    subst hi2
    subst hg
    refine lv_iload_n hx hb dX0_countOfKind_31 rfl (lv_at hl 1 rfl) ?_
    exact kr_eI hx hb hr hlocks rfl rfl dX0_countOfKind_32
  · have hi : i < N := kr_lt (by omega) (by omega) c9
    refine lv_aload_n hx hb dX0_countOfKind_12 rfl (lv_at hl 2 rfl) ?_
    refine va_get (ci := 0) (v := .ref (a 0)) (C := RX0) (T := TX0) (N := 10) hx hb hts kr_wsX0 hown hK hP 0 rfl rfl 0 (by decide) (hts _ kq_42) (fun _ h9 => h9) rfl dX0_countOfKind_13 ?_
    refine lv_iload_n hx hb dX0_countOfKind_16 rfl (lv_at hl 0 rfl) ?_
    refine kr_ald hx hb hK hP 1 0 rfl rfl i (by omega) (by decide) dX0_countOfKind_17 ?_
    refine lv_iload_n hx hb dX0_countOfKind_18 rfl (lv_at hl 3 rfl) ?_
    refine lv_icmp_ne (tgt := 25) hx hb dX0_countOfKind_19 (by decide) (fun c19 => ?_) (fun c19 => ?_)
    · refine lv_iinc (v := nI (i + 1)) (lv' := [(3, .int (nI (i + 1))), (2, .int (nI g)), (0, .ref h), (1, .int kd)]) hx hb dX0_countOfKind_25 hl (k := 0) rfl (kr_inc _) (by decide) rfl (fun ls hl => ?_)
      refine lv_goto (tgt := 4) hx hb dX0_countOfKind_28 (by decide) ?_
      exact ih (i + 1, g) ls ⟨by omega, by rw [hg, kr_cn_s, if_neg c19]; rfl⟩ (by show N - (i + 1) < N - i; omega) (lv_sub hl [0, 1, 2, 3] rfl)
    · refine lv_iinc (v := nI (g + 1)) (lv' := [(2, .int (nI (g + 1))), (3, .int (nI i)), (0, .ref h), (1, .int kd)]) hx hb dX0_countOfKind_22 hl (k := 1) rfl (kr_inc _) (by decide) rfl (fun ls hl => ?_)
      refine lv_iinc (v := nI (i + 1)) (lv' := [(3, .int (nI (i + 1))), (2, .int (nI (g + 1))), (0, .ref h), (1, .int kd)]) hx hb dX0_countOfKind_25 hl (k := 1) rfl (kr_inc _) (by decide) rfl (fun ls hl => ?_)
      refine lv_goto (tgt := 4) hx hb dX0_countOfKind_28 (by decide) ?_
      exact ih (i + 1, g + 1) ls ⟨by omega, by rw [hg, kr_cn_s, if_pos c19]⟩ (by show N - (i + 1) < N - i; omega) (lv_sub hl [0, 1, 2, 3] rfl)
set_option maxHeartbeats 4000000 in
set_option maxRecDepth 100000 in
theorem c_X0_isAheadOf (l : Launch) (D : va_G) (cy : ClassId) (h : Nat) (a : Nat → Nat) (N L : Nat) (A : Nat → Nat → Int32) (j k : Nat) (hj : j < 16) (hk : k < 16) : Met l yX0_isAheadOf (Cond.code yX0_isAheadOf cX0_isAheadOf 3 (some .boolean) :: kr_all) ({ frames := 0, cells := 0, slots := 0, locals := 0 }) (va_Pc [.ref h, .int (nI j), .int (nI k)] (kr_R D (kr_W0 cy h a N L A) cy)) (vp_Si (fun r => r = if kr_ia A j k then 1 else 0)) 0 0 (fun _ => False) := by
  refine kr_of (by decide) (Nat.le_of_ble_eq_true rfl) ?_
  intro p e s m below meth c ls hx hb hml hr hts hown hlocks hin hv hl
  obtain ⟨hP, hK⟩ := hv
  have hown : s.vm.findClass RX0 = some m.cls := hown
  have hl : lv_has ls 3 [(0, .ref h), (1, .int (nI j)), (2, .int (nI k))] := hl
  refine lv_aload_n hx hb dX0_isAheadOf_0 rfl (lv_at hl 0 rfl) ?_
  refine va_get (ci := 0) (v := .ref (a 1)) (C := RX0) (T := TX0) (N := 10) hx hb hts kr_wsX0 hown hK hP 0 rfl rfl 1 (by decide) (hts _ kq_43) (fun _ h9 => h9) rfl dX0_isAheadOf_1 ?_
  refine lv_iload_n hx hb dX0_isAheadOf_4 rfl (lv_at hl 1 rfl) ?_
  refine kr_ald hx hb hK hP 2 0 rfl rfl j (by omega) (by decide) dX0_isAheadOf_5 ?_
  refine lv_aload_n hx hb dX0_isAheadOf_6 rfl (lv_at hl 0 rfl) ?_
  refine va_get (ci := 0) (v := .ref (a 1)) (C := RX0) (T := TX0) (N := 10) hx hb hts kr_wsX0 hown hK hP 0 rfl rfl 1 (by decide) (hts _ kq_43) (fun _ h9 => h9) rfl dX0_isAheadOf_7 ?_
  refine lv_iload_n hx hb dX0_isAheadOf_10 rfl (lv_at hl 2 rfl) ?_
  refine kr_ald hx hb hK hP 2 0 rfl rfl k (by omega) (by decide) dX0_isAheadOf_11 ?_
  refine lv_icmp_eq (tgt := 36) hx hb dX0_isAheadOf_12 (by decide) (fun c12 => ?_) (fun c12 => ?_)
  · refine lv_aload_n hx hb dX0_isAheadOf_36 rfl (lv_at hl 0 rfl) ?_
    refine va_get (ci := 0) (v := .ref (a 2)) (C := RX0) (T := TX0) (N := 10) hx hb hts kr_wsX0 hown hK hP 0 rfl rfl 2 (by decide) (hts _ kq_44) (fun _ h9 => h9) rfl dX0_isAheadOf_37 ?_
    refine lv_iload_n hx hb dX0_isAheadOf_40 rfl (lv_at hl 1 rfl) ?_
    refine kr_ald hx hb hK hP 3 0 rfl rfl j (by omega) (by decide) dX0_isAheadOf_41 ?_
    refine lv_aload_n hx hb dX0_isAheadOf_42 rfl (lv_at hl 0 rfl) ?_
    refine va_get (ci := 0) (v := .ref (a 2)) (C := RX0) (T := TX0) (N := 10) hx hb hts kr_wsX0 hown hK hP 0 rfl rfl 2 (by decide) (hts _ kq_44) (fun _ h9 => h9) rfl dX0_isAheadOf_43 ?_
    refine lv_iload_n hx hb dX0_isAheadOf_46 rfl (lv_at hl 2 rfl) ?_
    refine kr_ald hx hb hK hP 3 0 rfl rfl k (by omega) (by decide) dX0_isAheadOf_47 ?_
    refine lv_icmp_eq (tgt := 72) hx hb dX0_isAheadOf_48 (by decide) (fun c48 => ?_) (fun c48 => ?_)
    · refine lv_iload_n hx hb dX0_isAheadOf_72 rfl (lv_at hl 1 rfl) ?_
      refine lv_iload_n hx hb dX0_isAheadOf_73 rfl (lv_at hl 2 rfl) ?_
      refine lv_icmp_ge (tgt := 81) hx hb dX0_isAheadOf_74 (by decide) (fun c74 => ?_) (fun c74 => ?_)
      · refine lv_iconst (v := 0) hx hb dX0_isAheadOf_81 (by decide) ?_
        exact kr_eZ hx hb hr hlocks rfl (Or.inl rfl) (if_neg (by unfold kr_ia; rw [if_pos c12, if_pos c48]; have := kr_ge (by omega) (by omega) c74; omega)).symm dX0_isAheadOf_82
      · refine lv_iconst (v := 1) hx hb dX0_isAheadOf_77 (by decide) ?_
        refine lv_goto (tgt := 82) hx hb dX0_isAheadOf_78 (by decide) ?_
        exact kr_eZ hx hb hr hlocks rfl (Or.inr rfl) (if_pos (by unfold kr_ia; rw [if_pos c12, if_pos c48]; exact kr_lt (by omega) (by omega) c74)).symm dX0_isAheadOf_82
    · refine lv_aload_n hx hb dX0_isAheadOf_51 rfl (lv_at hl 0 rfl) ?_
      refine va_get (ci := 0) (v := .ref (a 2)) (C := RX0) (T := TX0) (N := 10) hx hb hts kr_wsX0 hown hK hP 0 rfl rfl 2 (by decide) (hts _ kq_44) (fun _ h9 => h9) rfl dX0_isAheadOf_52 ?_
      refine lv_iload_n hx hb dX0_isAheadOf_55 rfl (lv_at hl 1 rfl) ?_
      refine kr_ald hx hb hK hP 3 0 rfl rfl j (by omega) (by decide) dX0_isAheadOf_56 ?_
      refine lv_aload_n hx hb dX0_isAheadOf_57 rfl (lv_at hl 0 rfl) ?_
      refine va_get (ci := 0) (v := .ref (a 2)) (C := RX0) (T := TX0) (N := 10) hx hb hts kr_wsX0 hown hK hP 0 rfl rfl 2 (by decide) (hts _ kq_44) (fun _ h9 => h9) rfl dX0_isAheadOf_58 ?_
      refine lv_iload_n hx hb dX0_isAheadOf_61 rfl (lv_at hl 2 rfl) ?_
      refine kr_ald hx hb hK hP 3 0 rfl rfl k (by omega) (by decide) dX0_isAheadOf_62 ?_
      refine lv_icmp_ge (tgt := 70) hx hb dX0_isAheadOf_63 (by decide) (fun c63 => ?_) (fun c63 => ?_)
      · refine lv_iconst (v := 0) hx hb dX0_isAheadOf_70 (by decide) ?_
        exact kr_eZ hx hb hr hlocks rfl (Or.inl rfl) (if_neg (by unfold kr_ia; rw [if_pos c12, if_neg c48]; exact kr_ngt2 c63)).symm dX0_isAheadOf_71
      · refine lv_iconst (v := 1) hx hb dX0_isAheadOf_66 (by decide) ?_
        refine lv_goto (tgt := 71) hx hb dX0_isAheadOf_67 (by decide) ?_
        exact kr_eZ hx hb hr hlocks rfl (Or.inr rfl) (if_pos (by unfold kr_ia; rw [if_pos c12, if_neg c48]; exact kr_nle2 c63)).symm dX0_isAheadOf_71
  · refine lv_aload_n hx hb dX0_isAheadOf_15 rfl (lv_at hl 0 rfl) ?_
    refine va_get (ci := 0) (v := .ref (a 1)) (C := RX0) (T := TX0) (N := 10) hx hb hts kr_wsX0 hown hK hP 0 rfl rfl 1 (by decide) (hts _ kq_43) (fun _ h9 => h9) rfl dX0_isAheadOf_16 ?_
    refine lv_iload_n hx hb dX0_isAheadOf_19 rfl (lv_at hl 1 rfl) ?_
    refine kr_ald hx hb hK hP 2 0 rfl rfl j (by omega) (by decide) dX0_isAheadOf_20 ?_
    refine lv_aload_n hx hb dX0_isAheadOf_21 rfl (lv_at hl 0 rfl) ?_
    refine va_get (ci := 0) (v := .ref (a 1)) (C := RX0) (T := TX0) (N := 10) hx hb hts kr_wsX0 hown hK hP 0 rfl rfl 1 (by decide) (hts _ kq_43) (fun _ h9 => h9) rfl dX0_isAheadOf_22 ?_
    refine lv_iload_n hx hb dX0_isAheadOf_25 rfl (lv_at hl 2 rfl) ?_
    refine kr_ald hx hb hK hP 2 0 rfl rfl k (by omega) (by decide) dX0_isAheadOf_26 ?_
    refine lv_icmp_le (tgt := 34) hx hb dX0_isAheadOf_27 (by decide) (fun c27 => ?_) (fun c27 => ?_)
    · refine lv_iconst (v := 0) hx hb dX0_isAheadOf_34 (by decide) ?_
      exact kr_eZ hx hb hr hlocks rfl (Or.inl rfl) (if_neg (by unfold kr_ia; rw [if_neg c12]; exact kr_ngt2 c27)).symm dX0_isAheadOf_35
    · refine lv_iconst (v := 1) hx hb dX0_isAheadOf_30 (by decide) ?_
      refine lv_goto (tgt := 35) hx hb dX0_isAheadOf_31 (by decide) ?_
      exact kr_eZ hx hb hr hlocks rfl (Or.inr rfl) (if_pos (by unfold kr_ia; rw [if_neg c12]; exact kr_nle2 c27)).symm dX0_isAheadOf_35
theorem kg_RX0_217 : GoodIn kr_all (wsV RX0 217 RX0 yX0_isAheadOf (Cond.code yX0_isAheadOf cX0_isAheadOf 3 (some .boolean) :: kr_all)) := kr_gV kq_285 kq_287 kq_15 kq_25 kq_288
set_option maxHeartbeats 4000000 in
set_option maxRecDepth 100000 in
theorem c_X0_rankInKind (l : Launch) (D : va_G) (cy : ClassId) (h : Nat) (a : Nat → Nat) (N L : Nat) (A : Nat → Nat → Int32) (k : Nat) (hN : N ≤ 16) (hk : k < N) : Met l yX0_rankInKind (Cond.code yX0_rankInKind cX0_rankInKind 4 (some .int) :: kr_all) ({ frames := 1, cells := 0, slots := 0, locals := 22 }) (va_Pc [.ref h, .int (nI k)] (kr_R D (kr_W0 cy h a N L A) cy)) (vp_Si (fun r => r = nI (kr_rk A k N))) 0 0 (fun _ => False) := by
  refine kr_of (by decide) (Nat.le_of_ble_eq_true rfl) ?_
  intro p e s m below meth c ls hx hb hml hr hts hown hlocks hin hv hl
  obtain ⟨hP, hK⟩ := hv
  have hown : s.vm.findClass RX0 = some m.cls := hown
  have hl : lv_has ls 4 [(0, .ref h), (1, .int (nI k))] := hl
  refine lv_iconst (v := 0) hx hb dX0_rankInKind_0 (by decide) ?_
  refine lv_istore_n (lv' := [(2, .int 0), (0, .ref h), (1, .int (nI k))]) hx hb dX0_rankInKind_1 rfl hl (by decide) rfl (fun ls hl => ?_)
  refine lv_iconst (v := 0) hx hb dX0_rankInKind_2 (by decide) ?_
  refine lv_istore_n (lv' := [(3, .int 0), (2, .int 0), (0, .ref h), (1, .int (nI k))]) hx hb dX0_rankInKind_3 rfl hl (by decide) rfl (fun ls hl => ?_)
  refine kr_lp (nL := 4) (fun z : Nat × Nat => [(3, .int (nI z.1)), (2, .int (nI z.2)), (0, .ref h), (1, .int (nI k))]) (fun z => z.1 ≤ N ∧ z.2 = kr_rk A k z.1) (fun z => N - z.1) ?_ (0, 0) ⟨by omega, rfl⟩ (lv_sub hl [0, 1, 2, 3] rfl)
  clear hl
  intro z ls hI hl ih
  obtain ⟨i, g⟩ := z
  have hl : lv_has ls 4 [(3, .int (nI i)), (2, .int (nI g)), (0, .ref h), (1, .int (nI k))] := hl
  obtain ⟨hi0, hg⟩ : i ≤ N ∧ g = kr_rk A k i := hI
  refine lv_iload_n hx hb dX0_rankInKind_4 rfl (lv_at hl 0 rfl) ?_
  refine lv_aload_n hx hb dX0_rankInKind_5 rfl (lv_at hl 2 rfl) ?_
  refine va_get (ci := 0) (v := .int (nI N)) (C := RX0) (T := TX0) (N := 10) hx hb hts kr_wsX0 hown hK hP 0 rfl rfl 5 (by decide) (hts _ kq_47) (fun _ h9 => h9) rfl dX0_rankInKind_6 ?_
  refine lv_icmp_ge (tgt := 45) hx hb dX0_rankInKind_9 (by decide) (fun c9 => ?_) (fun c9 => ?_)
  · have hi2 : i = N := by have := kr_ge (by omega) (by omega) c9; omega
    subst hi2
    subst hg
    refine lv_iload_n hx hb dX0_rankInKind_45 rfl (lv_at hl 1 rfl) ?_
    exact kr_eI hx hb hr hlocks rfl rfl dX0_rankInKind_46
  · have hi : i < N := kr_lt (by omega) (by omega) c9
    refine lv_aload_n hx hb dX0_rankInKind_12 rfl (lv_at hl 2 rfl) ?_
    refine va_get (ci := 0) (v := .ref (a 0)) (C := RX0) (T := TX0) (N := 10) hx hb hts kr_wsX0 hown hK hP 0 rfl rfl 0 (by decide) (hts _ kq_42) (fun _ h9 => h9) rfl dX0_rankInKind_13 ?_
    refine lv_iload_n hx hb dX0_rankInKind_16 rfl (lv_at hl 0 rfl) ?_
    refine kr_ald hx hb hK hP 1 0 rfl rfl i (by omega) (by decide) dX0_rankInKind_17 ?_
    refine lv_aload_n hx hb dX0_rankInKind_18 rfl (lv_at hl 2 rfl) ?_
    refine va_get (ci := 0) (v := .ref (a 0)) (C := RX0) (T := TX0) (N := 10) hx hb hts kr_wsX0 hown hK hP 0 rfl rfl 0 (by decide) (hts _ kq_42) (fun _ h9 => h9) rfl dX0_rankInKind_19 ?_
    refine lv_iload_n hx hb dX0_rankInKind_22 rfl (lv_at hl 3 rfl) ?_
    refine kr_ald hx hb hK hP 1 0 rfl rfl k (by omega) (by decide) dX0_rankInKind_23 ?_
    refine lv_icmp_ne (tgt := 39) hx hb dX0_rankInKind_24 (by decide) (fun c24 => ?_) (fun c24 => ?_)
    · refine lv_iinc (v := nI (i + 1)) (lv' := [(3, .int (nI (i + 1))), (2, .int (nI g)), (0, .ref h), (1, .int (nI k))]) hx hb dX0_rankInKind_39 hl (k := 0) rfl (kr_inc _) (by decide) rfl (fun ls hl => ?_)
      refine lv_goto (tgt := 4) hx hb dX0_rankInKind_42 (by decide) ?_
      exact ih (i + 1, g) ls ⟨by omega, by rw [hg, kr_rk_s, if_neg (fun z => c24 z.1)]; rfl⟩ (by show N - (i + 1) < N - i; omega) (lv_sub hl [0, 1, 2, 3] rfl)
    · refine lv_aload_n hx hb dX0_rankInKind_27 rfl (lv_at hl 2 rfl) ?_
      refine lv_iload_n hx hb dX0_rankInKind_28 rfl (lv_at hl 0 rfl) ?_
      refine lv_iload_n hx hb dX0_rankInKind_29 rfl (lv_at hl 3 rfl) ?_
      refine kr_vI (n := 2) (As := [.int (nI i), .int (nI k)]) (rest := []) ⟨hx, hb, hml, hown, hts⟩ (c_X0_isAheadOf l D cy h a N L A i k (by omega) (by omega)) kg_RX0_217 ⟨rfl, rfl⟩ (by decide +kernel) ⟨Nat.le_of_ble_eq_true rfl, Nat.le_of_ble_eq_true rfl⟩ (kr_pv0 hP hK) rfl hl.1 rfl (Nat.le_of_ble_eq_true rfl) dX0_rankInKind_30 ⟨Nat.zero_le _, Nat.zero_le _⟩ (fun r9 e9 => ?_)
      subst e9
      refine lv_if_eq (tgt := 39) hx hb dX0_rankInKind_33 (by decide) (fun c33 => ?_) (fun c33 => ?_)
      · refine lv_iinc (v := nI (i + 1)) (lv' := [(3, .int (nI (i + 1))), (2, .int (nI g)), (0, .ref h), (1, .int (nI k))]) hx hb dX0_rankInKind_39 hl (k := 0) rfl (kr_inc _) (by decide) rfl (fun ls hl => ?_)
        refine lv_goto (tgt := 4) hx hb dX0_rankInKind_42 (by decide) ?_
        exact ih (i + 1, g) ls ⟨by omega, by rw [hg, kr_rk_s, if_neg (fun z => kr_if0 c33 z.2)]; rfl⟩ (by show N - (i + 1) < N - i; omega) (lv_sub hl [0, 1, 2, 3] rfl)
      · refine lv_iinc (v := nI (g + 1)) (lv' := [(2, .int (nI (g + 1))), (3, .int (nI i)), (0, .ref h), (1, .int (nI k))]) hx hb dX0_rankInKind_36 hl (k := 1) rfl (kr_inc _) (by decide) rfl (fun ls hl => ?_)
        refine lv_iinc (v := nI (i + 1)) (lv' := [(3, .int (nI (i + 1))), (2, .int (nI (g + 1))), (0, .ref h), (1, .int (nI k))]) hx hb dX0_rankInKind_39 hl (k := 1) rfl (kr_inc _) (by decide) rfl (fun ls hl => ?_)
        refine lv_goto (tgt := 4) hx hb dX0_rankInKind_42 (by decide) ?_
        exact ih (i + 1, g + 1) ls ⟨by omega, by rw [hg, kr_rk_s, if_pos ⟨c24, kr_if1 c33⟩]⟩ (by show N - (i + 1) < N - i; omega) (lv_sub hl [0, 1, 2, 3] rfl)
theorem kg_RX0_110 : GoodIn kr_all (wsV RX0 110 RX0 yX0_rankInKind (Cond.code yX0_rankInKind cX0_rankInKind 4 (some .int) :: kr_all)) := kr_gV kq_281 kq_283 kq_14 kq_25 kq_284
set_option maxHeartbeats 4000000 in
set_option maxRecDepth 100000 in
theorem c_X0_knotWithRank (l : Launch) (D : va_G) (cy : ClassId) (h : Nat) (a : Nat → Nat) (N L : Nat) (A : Nat → Nat → Int32) (kd rk : Int32) (hN : N ≤ 16) : Met l yX0_knotWithRank (Cond.code yX0_knotWithRank cX0_knotWithRank 4 (some .int) :: kr_all) ({ frames := 2, cells := 0, slots := 0, locals := 45 }) (va_Pc [.ref h, .int kd, .int rk] (kr_R D (kr_W0 cy h a N L A) cy)) (vp_Si (fun r => r = kr_kw A N kd rk N 0)) 0 0 (fun _ => False) := by
  refine kr_of (by decide) (Nat.le_of_ble_eq_true rfl) ?_
  intro p e s m below meth c ls hx hb hml hr hts hown hlocks hin hv hl
  obtain ⟨hP, hK⟩ := hv
  have hown : s.vm.findClass RX0 = some m.cls := hown
  have hl : lv_has ls 4 [(0, .ref h), (1, .int kd), (2, .int rk)] := hl
  refine lv_iconst (v := 0) hx hb dX0_knotWithRank_0 (by decide) ?_
  refine lv_istore_n (lv' := [(3, .int 0), (0, .ref h), (1, .int kd), (2, .int rk)]) hx hb dX0_knotWithRank_1 rfl hl (by decide) rfl (fun ls hl => ?_)
  refine kr_lp (nL := 4) (fun z : Nat => [(3, .int (nI z)), (0, .ref h), (1, .int kd), (2, .int rk)]) (fun z => z ≤ N ∧ kr_kw A N kd rk (N - z) z = kr_kw A N kd rk N 0) (fun z => N - z) ?_ (0) ⟨by omega, rfl⟩ (lv_sub hl [0, 1, 2, 3] rfl)
  clear hl
  intro z ls hI hl ih
  obtain ⟨i, rfl⟩ : ∃ y, y = z := ⟨_, rfl⟩
  have hl : lv_has ls 4 [(3, .int (nI i)), (0, .ref h), (1, .int kd), (2, .int rk)] := hl
  obtain ⟨hi0, he⟩ : i ≤ N ∧ kr_kw A N kd rk (N - i) i = kr_kw A N kd rk N 0 := hI
  refine lv_iload_n hx hb dX0_knotWithRank_2 rfl (lv_at hl 0 rfl) ?_
  refine lv_aload_n hx hb dX0_knotWithRank_3 rfl (lv_at hl 1 rfl) ?_
  refine va_get (ci := 0) (v := .int (nI N)) (C := RX0) (T := TX0) (N := 10) hx hb hts kr_wsX0 hown hK hP 0 rfl rfl 5 (by decide) (hts _ kq_47) (fun _ h9 => h9) rfl dX0_knotWithRank_4 ?_
  refine lv_icmp_ge (tgt := 37) hx hb dX0_knotWithRank_7 (by decide) (fun c7 => ?_) (fun c7 => ?_)
  · have hi2 : i = N := by have := kr_ge (by omega) (by omega) c7; omega
    subst hi2
    refine lv_iconst (v := -1) hx hb dX0_knotWithRank_37 (by decide) ?_
    exact kr_eI hx hb hr hlocks rfl (by rw [Nat.sub_self] at he; exact he) dX0_knotWithRank_38
  · have hi : i < N := kr_lt (by omega) (by omega) c7
    refine lv_aload_n hx hb dX0_knotWithRank_10 rfl (lv_at hl 1 rfl) ?_
    refine va_get (ci := 0) (v := .ref (a 0)) (C := RX0) (T := TX0) (N := 10) hx hb hts kr_wsX0 hown hK hP 0 rfl rfl 0 (by decide) (hts _ kq_42) (fun _ h9 => h9) rfl dX0_knotWithRank_11 ?_
    refine lv_iload_n hx hb dX0_knotWithRank_14 rfl (lv_at hl 0 rfl) ?_
    refine kr_ald hx hb hK hP 1 0 rfl rfl i (by omega) (by decide) dX0_knotWithRank_15 ?_
    refine lv_iload_n hx hb dX0_knotWithRank_16 rfl (lv_at hl 2 rfl) ?_
    refine lv_icmp_ne (tgt := 31) hx hb dX0_knotWithRank_17 (by decide) (fun c17 => ?_) (fun c17 => ?_)
    · refine lv_iinc (v := nI (i + 1)) (lv' := [(3, .int (nI (i + 1))), (0, .ref h), (1, .int kd), (2, .int rk)]) hx hb dX0_knotWithRank_31 hl (k := 0) rfl (kr_inc _) (by decide) rfl (fun ls hl => ?_)
      refine lv_goto (tgt := 2) hx hb dX0_knotWithRank_34 (by decide) ?_
      exact ih (i + 1) ls ⟨by omega, (kr_kw_s hi (fun z => c17 z.1)).symm.trans he⟩ (by show N - (i + 1) < N - i; omega) (lv_sub hl [0, 1, 2, 3] rfl)
    · refine lv_aload_n hx hb dX0_knotWithRank_20 rfl (lv_at hl 1 rfl) ?_
      refine lv_iload_n hx hb dX0_knotWithRank_21 rfl (lv_at hl 0 rfl) ?_
      refine kr_vI (n := 1) (As := [.int (nI i)]) (rest := []) ⟨hx, hb, hml, hown, hts⟩ (c_X0_rankInKind l D cy h a N L A i (by omega) (by omega)) kg_RX0_110 ⟨rfl, rfl⟩ (by decide +kernel) ⟨Nat.le_of_ble_eq_true rfl, Nat.le_of_ble_eq_true rfl⟩ (kr_pv0 hP hK) rfl hl.1 rfl (Nat.le_of_ble_eq_true rfl) dX0_knotWithRank_22 ⟨Nat.zero_le _, Nat.zero_le _⟩ (fun r9 e9 => ?_)
      subst e9
      refine lv_iload_n hx hb dX0_knotWithRank_25 rfl (lv_at hl 3 rfl) ?_
      refine lv_icmp_ne (tgt := 31) hx hb dX0_knotWithRank_26 (by decide) (fun c26 => ?_) (fun c26 => ?_)
      · refine lv_iinc (v := nI (i + 1)) (lv' := [(3, .int (nI (i + 1))), (0, .ref h), (1, .int kd), (2, .int rk)]) hx hb dX0_knotWithRank_31 hl (k := 0) rfl (kr_inc _) (by decide) rfl (fun ls hl => ?_)
        refine lv_goto (tgt := 2) hx hb dX0_knotWithRank_34 (by decide) ?_
        exact ih (i + 1) ls ⟨by omega, (kr_kw_s hi (fun z => c26 z.2)).symm.trans he⟩ (by show N - (i + 1) < N - i; omega) (lv_sub hl [0, 1, 2, 3] rfl)
      · refine lv_iload_n hx hb dX0_knotWithRank_29 rfl (lv_at hl 0 rfl) ?_
        exact kr_eI hx hb hr hlocks rfl ((kr_kw_y hi ⟨c17, c26⟩).symm.trans he) dX0_knotWithRank_30
set_option maxHeartbeats 4000000 in
set_option maxRecDepth 100000 in
theorem c_X0_digestWith (l : Launch) (d0 : Int64) (x : Int32) : Met l yX0_digestWith (Cond.code yX0_digestWith cX0_digestWith 3 (some .long) :: kr_all) ({ frames := 0, cells := 0, slots := 0, locals := 0 }) (va_Pc [.long d0, .int x] (fun _ => True)) (vp_Sl (fun r => r = kr_dw d0 x)) 0 0 (fun _ => False) := by
  refine kr_of (by decide) (Nat.le_of_ble_eq_true rfl) ?_
  intro p e s m below meth c ls hx hb hml hr hts hown hlocks hin hv hl
  have hown : s.vm.findClass RX0 = some m.cls := hown
  have hl : lv_has ls 3 [(0, .long d0), (2, .int x)] := hl
  refine lv_lload_n hx hb dX0_digestWith_0 rfl (lv_at hl 0 rfl) ?_
  refine lv_ldc2 (v := 31) hx hb hown (hts _ kq_375) dX0_digestWith_1 ?_
  refine lv_lmul hx hb dX0_digestWith_4 ?_
  refine lv_iload_n hx hb dX0_digestWith_5 rfl (lv_at hl 1 rfl) ?_
  refine lv_i2l (v := x.toInt64) hx hb dX0_digestWith_6 rfl ?_
  refine lv_ladd hx hb dX0_digestWith_7 ?_
  exact kr_eL hx hb hr hlocks rfl rfl dX0_digestWith_8
set_option maxHeartbeats 4000000 in
set_option maxRecDepth 100000 in
theorem c_X0_checkKind (l : Launch) (x : Int32) (hx0 : x = 0 ∨ x = 1) : Met l yX0_checkKind (Cond.code yX0_checkKind cX0_checkKind 1 none :: kr_all) ({ frames := 0, cells := 0, slots := 0, locals := 0 }) (va_Pc [.int x] (fun _ => True)) (va_Sv (fun _ => True)) 0 0 (fun _ => False) := by
  refine kr_of (by decide) (Nat.le_of_ble_eq_true rfl) ?_
  intro p e s m below meth c ls hx hb hml hr hts hown hlocks hin hv hl
  have hown : s.vm.findClass RX0 = some m.cls := hown
  have hl : lv_has ls 1 [(0, .int x)] := hl
  refine lv_iload_n hx hb dX0_checkKind_0 rfl (lv_at hl 0 rfl) ?_
  refine lv_if_eq (tgt := 19) hx hb dX0_checkKind_1 (by decide) (fun c1 => ?_) (fun c1 => ?_)
  · exact kr_eV hx hb hr hlocks rfl trivial dX0_checkKind_19
  · refine lv_iload_n hx hb dX0_checkKind_4 rfl (lv_at hl 0 rfl) ?_
    refine lv_iconst (v := 1) hx hb dX0_checkKind_5 (by decide) ?_
    refine lv_icmp_eq (tgt := 19) hx hb dX0_checkKind_6 (by decide) (fun c6 => ?_) (fun c6 => absurd (hx0.resolve_left c1) c6)
    exact kr_eV hx hb hr hlocks rfl trivial dX0_checkKind_19
set_option maxHeartbeats 4000000 in
set_option maxRecDepth 100000 in
theorem c_X0_checkKnot (l : Launch) (D : va_G) (cy : ClassId) (h : Nat) (a : Nat → Nat) (N L : Nat) (A : Nat → Nat → Int32) (k : Nat) (hN : N ≤ 16) (hk : k < N) : Met l yX0_checkKnot (Cond.code yX0_checkKnot cX0_checkKnot 2 none :: kr_all) ({ frames := 1, cells := 0, slots := 0, locals := 21 }) (va_Pc [.ref h, .int (nI k)] (kr_R D (kr_W0 cy h a N L A) cy)) (va_Sv (fun _ => True)) 0 0 (fun _ => False) := by
  refine kr_of (by decide) (Nat.le_of_ble_eq_true rfl) ?_
  intro p e s m below meth c ls hx hb hml hr hts hown hlocks hin hv hl
  obtain ⟨hP, hK⟩ := hv
  have hown : s.vm.findClass RX0 = some m.cls := hown
  have hl : lv_has ls 2 [(0, .ref h), (1, .int (nI k))] := hl
  refine lv_aload_n hx hb dX0_checkKnot_0 rfl (lv_at hl 0 rfl) ?_
  refine lv_iload_n hx hb dX0_checkKnot_1 rfl (lv_at hl 1 rfl) ?_
  refine kr_vI (n := 1) (As := [.int (nI k)]) (rest := []) ⟨hx, hb, hml, hown, hts⟩ (c_X0_isKnot l D cy h a N L A (nI k)) kg_RX0_125 ⟨rfl, rfl⟩ (by decide +kernel) ⟨Nat.le_of_ble_eq_true rfl, Nat.le_of_ble_eq_true rfl⟩ (kr_pv0 hP hK) rfl hl.1 rfl (Nat.le_of_ble_eq_true rfl) dX0_checkKnot_2 ⟨Nat.zero_le _, Nat.zero_le _⟩ (fun r9 e9 => ?_)
  subst e9
  refine lv_if_ne (tgt := 18) hx hb dX0_checkKnot_5 (by decide) (fun c5 => ?_) (fun c5 => absurd (show ¬ nI k < 0 ∧ ¬ nI N ≤ nI k from ⟨nI_pos (by omega), nI_ge hk (by omega)⟩) (kr_if0 c5))
  exact kr_eV hx hb hr hlocks rfl trivial dX0_checkKnot_18
set_option maxHeartbeats 4000000 in
set_option maxRecDepth 100000 in
theorem c_X0_checkOfKind (l : Launch) (D : va_G) (cy : ClassId) (h : Nat) (a : Nat → Nat) (N L : Nat) (A : Nat → Nat → Int32) (k : Nat) (kd : Int32) (hk : k < 16) (he : A 0 k = kd) : Met l yX0_checkOfKind (Cond.code yX0_checkOfKind cX0_checkOfKind 3 none :: kr_all) ({ frames := 0, cells := 0, slots := 0, locals := 0 }) (va_Pc [.ref h, .int (nI k), .int kd] (kr_R D (kr_W0 cy h a N L A) cy)) (va_Sv (fun _ => True)) 0 0 (fun _ => False) := by
  refine kr_of (by decide) (Nat.le_of_ble_eq_true rfl) ?_
  intro p e s m below meth c ls hx hb hml hr hts hown hlocks hin hv hl
  obtain ⟨hP, hK⟩ := hv
  have hown : s.vm.findClass RX0 = some m.cls := hown
  have hl : lv_has ls 3 [(0, .ref h), (1, .int (nI k)), (2, .int kd)] := hl
  refine lv_aload_n hx hb dX0_checkOfKind_0 rfl (lv_at hl 0 rfl) ?_
  refine va_get (ci := 0) (v := .ref (a 0)) (C := RX0) (T := TX0) (N := 10) hx hb hts kr_wsX0 hown hK hP 0 rfl rfl 0 (by decide) (hts _ kq_42) (fun _ h9 => h9) rfl dX0_checkOfKind_1 ?_
  refine lv_iload_n hx hb dX0_checkOfKind_4 rfl (lv_at hl 1 rfl) ?_
  refine kr_ald hx hb hK hP 1 0 rfl rfl k (by omega) (by decide) dX0_checkOfKind_5 ?_
  refine lv_iload_n hx hb dX0_checkOfKind_6 rfl (lv_at hl 2 rfl) ?_
  refine lv_icmp_eq (tgt := 20) hx hb dX0_checkOfKind_7 (by decide) (fun c7 => ?_) (fun c7 => absurd he c7)
  exact kr_eV hx hb hr hlocks rfl trivial dX0_checkOfKind_20
set_option maxHeartbeats 4000000 in
set_option maxRecDepth 100000 in
theorem c_X0_checkLoad (l : Launch) (x : Int32) (hx0 : ¬ x < 1 ∧ ¬ 999 < x) : Met l yX0_checkLoad (Cond.code yX0_checkLoad cX0_checkLoad 1 none :: kr_all) ({ frames := 0, cells := 0, slots := 0, locals := 0 }) (va_Pc [.int x] (fun _ => True)) (va_Sv (fun _ => True)) 0 0 (fun _ => False) := by
  refine kr_of (by decide) (Nat.le_of_ble_eq_true rfl) ?_
  intro p e s m below meth c ls hx hb hml hr hts hown hlocks hin hv hl
  have hown : s.vm.findClass RX0 = some m.cls := hown
  have hl : lv_has ls 1 [(0, .int x)] := hl
  refine lv_iload_n hx hb dX0_checkLoad_0 rfl (lv_at hl 0 rfl) ?_
  refine lv_iconst (v := 1) hx hb dX0_checkLoad_1 (by decide) ?_
  refine lv_icmp_lt (tgt := 12) hx hb dX0_checkLoad_2 (by decide) (fun c2 => absurd c2 hx0.1) (fun c2 => ?_)
  refine lv_iload_n hx hb dX0_checkLoad_5 rfl (lv_at hl 0 rfl) ?_
  refine lv_sipush (v := 999) hx hb dX0_checkLoad_6 (by decide) ?_
  refine lv_icmp_le (tgt := 22) hx hb dX0_checkLoad_9 (by decide) (fun c9 => ?_) (fun c9 => absurd (kr_nle2 c9) hx0.2)
  exact kr_eV hx hb hr hlocks rfl trivial dX0_checkLoad_22
set_option maxHeartbeats 4000000 in
set_option maxRecDepth 100000 in
theorem c_X0_checkStrength (l : Launch) (x : Int32) (hx0 : ¬ x < 1 ∧ ¬ 999 < x) : Met l yX0_checkStrength (Cond.code yX0_checkStrength cX0_checkStrength 1 none :: kr_all) ({ frames := 0, cells := 0, slots := 0, locals := 0 }) (va_Pc [.int x] (fun _ => True)) (va_Sv (fun _ => True)) 0 0 (fun _ => False) := by
  refine kr_of (by decide) (Nat.le_of_ble_eq_true rfl) ?_
  intro p e s m below meth c ls hx hb hml hr hts hown hlocks hin hv hl
  have hown : s.vm.findClass RX0 = some m.cls := hown
  have hl : lv_has ls 1 [(0, .int x)] := hl
  refine lv_iload_n hx hb dX0_checkStrength_0 rfl (lv_at hl 0 rfl) ?_
  refine lv_iconst (v := 1) hx hb dX0_checkStrength_1 (by decide) ?_
  refine lv_icmp_lt (tgt := 12) hx hb dX0_checkStrength_2 (by decide) (fun c2 => absurd c2 hx0.1) (fun c2 => ?_)
  refine lv_iload_n hx hb dX0_checkStrength_5 rfl (lv_at hl 0 rfl) ?_
  refine lv_sipush (v := 999) hx hb dX0_checkStrength_6 (by decide) ?_
  refine lv_icmp_le (tgt := 22) hx hb dX0_checkStrength_9 (by decide) (fun c9 => ?_) (fun c9 => absurd (kr_nle2 c9) hx0.2)
  exact kr_eV hx hb hr hlocks rfl trivial dX0_checkStrength_22
set_option maxHeartbeats 4000000 in
set_option maxRecDepth 100000 in
theorem c_X0_checkLine (l : Launch) (D : va_G) (cy : ClassId) (h : Nat) (a : Nat → Nat) (N L : Nat) (A : Nat → Nat → Int32) (q : Nat) (hL : L ≤ 6) (hq : q < L) : Met l yX0_checkLine (Cond.code yX0_checkLine cX0_checkLine 2 none :: kr_all) ({ frames := 0, cells := 0, slots := 0, locals := 0 }) (va_Pc [.ref h, .int (nI q)] (kr_R D (kr_W0 cy h a N L A) cy)) (va_Sv (fun _ => True)) 0 0 (fun _ => False) := by
  refine kr_of (by decide) (Nat.le_of_ble_eq_true rfl) ?_
  intro p e s m below meth c ls hx hb hml hr hts hown hlocks hin hv hl
  obtain ⟨hP, hK⟩ := hv
  have hown : s.vm.findClass RX0 = some m.cls := hown
  have hl : lv_has ls 2 [(0, .ref h), (1, .int (nI q))] := hl
  refine lv_iload_n hx hb dX0_checkLine_0 rfl (lv_at hl 1 rfl) ?_
  refine lv_if_lt (tgt := 12) hx hb dX0_checkLine_1 (by decide) (fun c1 => absurd c1 (nI_pos (by omega))) (fun c1 => ?_)
  refine lv_iload_n hx hb dX0_checkLine_4 rfl (lv_at hl 1 rfl) ?_
  refine lv_aload_n hx hb dX0_checkLine_5 rfl (lv_at hl 0 rfl) ?_
  refine va_get (ci := 0) (v := .int (nI L)) (C := RX0) (T := TX0) (N := 10) hx hb hts kr_wsX0 hown hK hP 0 rfl rfl 7 (by decide) (hts _ kq_49) (fun _ h9 => h9) rfl dX0_checkLine_6 ?_
  refine lv_icmp_lt (tgt := 22) hx hb dX0_checkLine_9 (by decide) (fun c9 => ?_) (fun c9 => absurd (nI_lt hq (by omega)) c9)
  exact kr_eV hx hb hr hlocks rfl trivial dX0_checkLine_22
theorem kg_RX0_82 : GoodIn kr_all (wsV RX0 82 RX0 yX0_checkLine (Cond.code yX0_checkLine cX0_checkLine 2 none :: kr_all)) := kr_gV kq_82 kq_84 kq_1 kq_25 kq_85
set_option maxHeartbeats 4000000 in
set_option maxRecDepth 100000 in
theorem c_X0_checkPlace (l : Launch) (D : va_G) (cy : ClassId) (h : Nat) (a : Nat → Nat) (N L : Nat) (A : Nat → Nat → Int32) (q pl : Nat) (hw : kr_wf N L A) (hq : q < L) (hp : pl < kr_rc A q) : Met l yX0_checkPlace (Cond.code yX0_checkPlace cX0_checkPlace 3 none :: kr_all) ({ frames := 1, cells := 0, slots := 0, locals := 21 }) (va_Pc [.ref h, .int (nI q), .int (nI pl)] (kr_R D (kr_W0 cy h a N L A) cy)) (va_Sv (fun _ => True)) 0 0 (fun _ => False) := by
  refine kr_of (by decide) (Nat.le_of_ble_eq_true rfl) ?_
  intro p e s m below meth c ls hx hb hml hr hts hown hlocks hin hv hl
  obtain ⟨hP, hK⟩ := hv
  have hown : s.vm.findClass RX0 = some m.cls := hown
  have hl : lv_has ls 3 [(0, .ref h), (1, .int (nI q)), (2, .int (nI pl))] := hl
  have hL := hw.2.1
  obtain ⟨hrc, er⟩ := hw.rc hq
  refine lv_aload_n hx hb dX0_checkPlace_0 rfl (lv_at hl 0 rfl) ?_
  refine lv_iload_n hx hb dX0_checkPlace_1 rfl (lv_at hl 1 rfl) ?_
  refine kr_vV (n := 1) (As := [.int (nI q)]) (rest := []) ⟨hx, hb, hml, hown, hts⟩ (c_X0_checkLine l D cy h a N L A q (by omega) (by omega)) kg_RX0_82 ⟨rfl, rfl⟩ (by decide +kernel) ⟨Nat.le_of_ble_eq_true rfl, Nat.le_of_ble_eq_true rfl⟩ (kr_pv0 hP hK) rfl hl.1 rfl (Nat.le_of_ble_eq_true rfl) dX0_checkPlace_2 ⟨Nat.zero_le _, Nat.zero_le _⟩ ?_
  refine lv_iload_n hx hb dX0_checkPlace_5 rfl (lv_at hl 2 rfl) ?_
  refine lv_if_lt (tgt := 19) hx hb dX0_checkPlace_6 (by decide) (fun c6 => absurd c6 (nI_pos (by omega))) (fun c6 => ?_)
  refine lv_iload_n hx hb dX0_checkPlace_9 rfl (lv_at hl 2 rfl) ?_
  refine lv_aload_n hx hb dX0_checkPlace_10 rfl (lv_at hl 0 rfl) ?_
  refine va_get (ci := 0) (v := .ref (a 5)) (C := RX0) (T := TX0) (N := 10) hx hb hts kr_wsX0 hown hK hP 0 rfl rfl 6 (by decide) (hts _ kq_48) (fun _ h9 => h9) rfl dX0_checkPlace_11 ?_
  refine lv_iload_n hx hb dX0_checkPlace_14 rfl (lv_at hl 1 rfl) ?_
  refine kr_ald hx hb hK hP 6 0 rfl rfl q (by omega) (by decide) dX0_checkPlace_15 ?_
  rw [er]
  refine lv_icmp_lt (tgt := 29) hx hb dX0_checkPlace_16 (by decide) (fun c16 => ?_) (fun c16 => absurd (nI_lt hp (by omega)) c16)
  exact kr_eV hx hb hr hlocks rfl trivial dX0_checkPlace_29
set_option maxHeartbeats 4000000 in
set_option maxRecDepth 100000 in
theorem c_X0_checkNotGone (l : Launch) (D : va_G) (cy : ClassId) (h : Nat) (a : Nat → Nat) (N L : Nat) (A : Nat → Nat → Int32) (q : Nat) (hq : q < 6) (hg : ¬ A 5 q = 0) : Met l yX0_checkNotGone (Cond.code yX0_checkNotGone cX0_checkNotGone 2 none :: kr_all) ({ frames := 1, cells := 0, slots := 0, locals := 21 }) (va_Pc [.ref h, .int (nI q)] (kr_R D (kr_W0 cy h a N L A) cy)) (va_Sv (fun _ => True)) 0 0 (fun _ => False) := by
  refine kr_of (by decide) (Nat.le_of_ble_eq_true rfl) ?_
  intro p e s m below meth c ls hx hb hml hr hts hown hlocks hin hv hl
  obtain ⟨hP, hK⟩ := hv
  have hown : s.vm.findClass RX0 = some m.cls := hown
  have hl : lv_has ls 2 [(0, .ref h), (1, .int (nI q))] := hl
  refine lv_aload_n hx hb dX0_checkNotGone_0 rfl (lv_at hl 0 rfl) ?_
  refine lv_iload_n hx hb dX0_checkNotGone_1 rfl (lv_at hl 1 rfl) ?_
  refine kr_vI (n := 1) (As := [.int (nI q)]) (rest := []) ⟨hx, hb, hml, hown, hts⟩ (c_X0_isGone l D cy h a N L A q (by omega)) kg_RX0_140 ⟨rfl, rfl⟩ (by decide +kernel) ⟨Nat.le_of_ble_eq_true rfl, Nat.le_of_ble_eq_true rfl⟩ (kr_pv0 hP hK) rfl hl.1 rfl (Nat.le_of_ble_eq_true rfl) dX0_checkNotGone_2 ⟨Nat.zero_le _, Nat.zero_le _⟩ (fun r9 e9 => ?_)
  subst e9
  refine lv_if_eq (tgt := 18) hx hb dX0_checkNotGone_5 (by decide) (fun c5 => ?_) (fun c5 => absurd (kr_if1 c5) hg)
  exact kr_eV hx hb hr hlocks rfl trivial dX0_checkNotGone_18
