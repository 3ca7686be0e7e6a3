theorem kr_lset1 {ws : va_W} {x v : Nat × va_E} : (ws ++ [x]).set (ws.length + 0) v = ws ++ [v] := by
  rw [kr_ljset]; rfl
set_option maxHeartbeats 4000000 in
set_option maxRecDepth 100000 in
theorem c_X1_first (l : Launch) (sz : Nat) (D : va_G) (cy cz : ClassId) (ws : va_W) (i0 r n mny : Nat) (f : Nat → Int32) (ha : ws[i0]? = some (r, .inl (cy, n, .inl f))) (hn : n ≤ 5) (hm : mny ≤ 5) : Met l yX1_first (Cond.code yX1_first cX1_first 4 (some (.array .int)) :: kr_all) ({ frames := 0, cells := 1, slots := 5, locals := 0 }) (va_Pc [.ref r, .int (nI mny)] (kr_Sn D ws cy cz sz)) (va_Qr (fun (_ : Unit) => True) (fun _ q t => va_P D vwCl [(q, .inl (cy, mny, .inl (fun j => if j < n then f j else 0)))] t.heap ∧ va_D (va_A [] sz) [(q, .inl (cy, mny, .inl (fun j => if j < n then f j else 0)))]) (va_A [] sz)) 1 5 (va_A [] sz) := by
  refine kr_ofN (Qc := fun AA => va_Qr (fun (_ : Unit) => True) (fun _ q t => va_P D vwCl [(q, .inl (cy, mny, .inl (fun j => if j < n then f j else 0)))] t.heap ∧ va_D AA [(q, .inl (cy, mny, .inl (fun j => if j < n then f j else 0)))]) AA) (by decide) (Nat.le_of_ble_eq_true rfl) ?_
  intro p e s m below meth c ls AA hx hb hml hr hts hown hlocks hA hAA hP hK hD hZ hS hl
  have hown : s.vm.findClass RX1 = some m.cls := hown
  have hl : lv_has ls 4 [(0, .ref r), (1, .int (nI mny))] := hl
  refine lv_iload_n hx hb dX1_first_0 rfl (lv_at hl 1 rfl) ?_
  refine kr_newF (BB := fun _ => True) hx hb hts hK hP hD (fun _ _ => trivial) hS mny (nI_pos (by omega)) (nI_clamp (by omega)) (by omega) (Nat.le_of_ble_eq_true rfl) (show 0 + mny ≤ 5 by omega) dX1_first_1 (fun q9 H1 hq9 hP hD hS => ?_)
  refine W.widen (k := 1) (n := 5) (Nat.le_of_ble_eq_true rfl) (by omega) ?_
  refine lv_astore_n (lv' := [(2, .ref q9), (0, .ref r), (1, .int (nI mny))]) hx hb dX1_first_3 rfl hl (by decide) rfl (fun ls hl => ?_)
  refine lv_iconst (v := 0) hx hb dX1_first_4 (by decide) ?_
  refine lv_istore_n (lv' := [(3, .int 0), (2, .ref q9), (0, .ref r), (1, .int (nI mny))]) hx hb dX1_first_5 rfl hl (by decide) rfl (fun ls hl => ?_)
  have e0 : (fun _ : Nat => (0 : Int32)) = (fun j => if j < 0 then f j else 0) := by funext j; rw [if_neg (Nat.not_lt_zero j)]
  rw [e0] at hP hD
  refine kr_lpH (nL := 4) (fun z : Nat => [(3, .int (nI z)), (2, .ref q9), (0, .ref r), (1, .int (nI mny))]) (fun z H locs => (z ≤ mny ∧ z ≤ n) ∧ va_P D vwCl (ws ++ [(q9, .inl (cy, mny, .inl (fun j => if j < z then f j else 0)))]) H ∧ va_D (fun _ => True) (ws ++ [(q9, .inl (cy, mny, .inl (fun j => if j < z then f j else 0)))]) ∧ va_S AA s.heap H locs) (fun z => mny - z) ?_ (0) ⟨⟨by omega, by omega⟩, hP, hD, hS⟩ (lv_sub hl [0, 1, 2, 3] rfl)
  clear hl hP hS hD e0
  intro z H locs ls hI hl ih
  obtain ⟨i, rfl⟩ : ∃ y, y = z := ⟨_, rfl⟩
  have hl : lv_has ls 4 [(3, .int (nI i)), (2, .ref q9), (0, .ref r), (1, .int (nI mny))] := hl
  obtain ⟨⟨hi1, hi2⟩, hP, hD, hS⟩ : (i ≤ mny ∧ i ≤ n) ∧ va_P D vwCl (ws ++ [(q9, .inl (cy, mny, .inl (fun j => if j < i then f j else 0)))]) H ∧ va_D (fun _ => True) (ws ++ [(q9, .inl (cy, mny, .inl (fun j => if j < i then f j else 0)))]) ∧ va_S AA s.heap H locs := hI
  refine lv_iload_n hx hb dX1_first_6 rfl (lv_at hl 0 rfl) ?_
  refine lv_iload_n hx hb dX1_first_7 rfl (lv_at hl 3 rfl) ?_
  refine lv_icmp_ge (tgt := 29) hx hb dX1_first_8 (by decide) (fun c8 => ?_) (fun c8 => ?_)
  · have e1 : i = mny := by have := kr_ge (by omega) (by omega) c8; omega
    refine lv_aload_n hx hb dX1_first_29 rfl (lv_at hl 1 rfl) ?_
    have hP := kr_Pr hP
    have hP : va_P D vwCl [(q9, .inl (cy, mny, .inl (fun j => if j < n then f j else 0)))] H := kr_pm.mpr (fun x hx9 => by
      rw [List.mem_singleton.mp hx9]
      refine kr_cgI (kr_pm.mp hP _ (List.mem_singleton.mpr rfl)) (fun j hj => ?_)
      by_cases hj2 : j < n
      · rw [if_pos hj2, if_pos (show j < i by omega)]
      · rw [if_neg hj2, if_neg (show ¬ j < i by omega)])
    exact kr_nR hx hb hr hlocks hS hP (hA q9 hq9) dX1_first_30
  · have hi3 : i < mny := kr_lt (by omega) (by omega) c8
    refine lv_iload_n hx hb dX1_first_11 rfl (lv_at hl 0 rfl) ?_
    refine lv_aload_n hx hb dX1_first_12 rfl (lv_at hl 2 rfl) ?_
    refine va_alen hx hb hK hP _ 0 (kr_gl ha) rfl rfl dX1_first_13 ?_
    refine lv_icmp_ge (tgt := 29) hx hb dX1_first_14 (by decide) (fun c14 => ?_) (fun c14 => ?_)
    · have e1 : i = n := by have := kr_ge (by omega) (by omega) c14; omega
      refine lv_aload_n hx hb dX1_first_29 rfl (lv_at hl 1 rfl) ?_
      have hP := kr_Pr hP
      have hP : va_P D vwCl [(q9, .inl (cy, mny, .inl (fun j => if j < n then f j else 0)))] H := kr_pm.mpr (fun x hx9 => by
        rw [List.mem_singleton.mp hx9]
        refine kr_cgI (kr_pm.mp hP _ (List.mem_singleton.mpr rfl)) (fun j hj => ?_)
        rw [e1])
      exact kr_nR hx hb hr hlocks hS hP (hA q9 hq9) dX1_first_30
    · have hi4 : i < n := kr_lt (by omega) (by omega) c14
      refine lv_aload_n hx hb dX1_first_17 rfl (lv_at hl 1 rfl) ?_
      refine lv_iload_n hx hb dX1_first_18 rfl (lv_at hl 0 rfl) ?_
      refine lv_aload_n hx hb dX1_first_19 rfl (lv_at hl 2 rfl) ?_
      refine lv_iload_n hx hb dX1_first_20 rfl (lv_at hl 0 rfl) ?_
      refine kr_ald hx hb hK hP _ 0 (kr_gl ha) rfl i hi4 (by omega) dX1_first_21 ?_
      refine kr_astF (tys := [(cz, .array .int)]) hx hb hK hP hD hS (hA q9 hq9) (ws.length + 0) (kr_gr rfl) i hi3 (by omega) dX1_first_22 (fun H1 locs1 hP hD hS => ?_)
      rw [kr_lset1] at hP hD
      have e1 : upd (fun j => if j < i then f j else 0) i (f i) = (fun j => if j < i + 1 then f j else 0) := by
        funext j
        by_cases e : j = i
        · rw [e, pk_us, if_pos (by omega)]
        · rw [pk_un e]; by_cases e2 : j < i
          · rw [if_pos e2, if_pos (by omega)]
          · rw [if_neg e2, if_neg (by omega)]
      rw [e1] at hP hD
      refine lv_iinc (v := nI (i + 1)) (lv' := [(3, .int (nI (i + 1))), (2, .ref q9), (0, .ref r), (1, .int (nI mny))]) hx hb dX1_first_23 hl (k := 0) rfl (kr_inc _) (by decide) rfl (fun ls hl => ?_)
      refine lv_goto (tgt := 6) hx hb dX1_first_26 (by decide) ?_
      exact ih (i + 1) _ _ ls ⟨⟨show i + 1 ≤ mny by omega, show i + 1 ≤ n by omega⟩, hP, hD, hS⟩ (by show mny - (i + 1) < mny - i; omega) (lv_sub hl [0, 1, 2, 3] rfl)
set_option maxHeartbeats 4000000 in
set_option maxRecDepth 100000 in
theorem c_X1_with (l : Launch) (sz : Nat) (D : va_G) (cy cz : ClassId) (ws : va_W) (i0 r n x : Nat) (fq : Nat → Option Nat) (ha : ws[i0]? = some (r, .inl (cz, n, .inr (.inr (.inr (.inr fq)))))) (hn : n ≤ 16) (hrows : ∀ i, i < n → ∃ v n1 f1, fq i = some v ∧ (v, .inl (cy, n1, .inl f1)) ∈ ws) (hlast : ∃ n1 f1, (x, .inl (cy, n1, .inl f1)) ∈ ws) : Met l yX1_with (Cond.code yX1_with cX1_with 4 (some (.array (.array .int))) :: kr_all) ({ frames := 0, cells := 1, slots := 17, locals := 0 }) (va_Pc [.ref r, .ref x] (kr_Sn D ws cy cz sz)) (va_Qr (fun (_ : Unit) => True) (fun _ q t => va_P D vwCl [(q, .inl (cz, n + 1, .inr (.inr (.inr (.inr (fun j => if j = n then some x else if j < n then fq j else none))))))] t.heap ∧ va_D (va_A [] sz) [(q, .inl (cz, n + 1, .inr (.inr (.inr (.inr (fun j => if j = n then some x else if j < n then fq j else none))))))]) (va_A [] sz)) 1 17 (va_A [] sz) := by
  refine kr_ofN (Qc := fun AA => va_Qr (fun (_ : Unit) => True) (fun _ q t => va_P D vwCl [(q, .inl (cz, n + 1, .inr (.inr (.inr (.inr (fun j => if j = n then some x else if j < n then fq j else none))))))] t.heap ∧ va_D AA [(q, .inl (cz, n + 1, .inr (.inr (.inr (.inr (fun j => if j = n then some x else if j < n then fq j else none))))))]) AA) (by decide) (Nat.le_of_ble_eq_true rfl) ?_
  intro p e s m below meth c ls AA hx hb hml hr hts hown hlocks hA hAA hP hK hD hZ hS hl
  have hown : s.vm.findClass RX1 = some m.cls := hown
  have hl : lv_has ls 4 [(0, .ref r), (1, .ref x)] := hl
  refine lv_aload_n hx hb dX1_with_0 rfl (lv_at hl 0 rfl) ?_
  refine va_alen hx hb hK hP _ 1 ha rfl rfl dX1_with_1 ?_
  refine lv_iconst (v := 1) hx hb dX1_with_2 (by decide) ?_
  refine kr_iaddN hx hb n 1 dX1_with_3 ?_
  refine kr_newQ (BB := fun _ => True) hx hb hown (hts _ kq_468) hZ hP hD (fun _ _ => trivial) hS (n + 1) (nI_pos (by omega)) (nI_clamp (by omega)) (by omega) (Nat.le_of_ble_eq_true rfl) (show 0 + (n + 1) ≤ 17 by omega) dX1_with_4 (fun q9 cA H1 hq9 hcA hP hD hS => ?_)
  have ecA : cA = cz := Option.some.inj (Eq.trans (Eq.symm (show s.vm.findClass _ = some cA from hcA.2)) (show s.vm.findClass _ = some cz from (hK.2 1 _ rfl).2))
  subst ecA
  refine W.widen (k := 1) (n := 17) (Nat.le_of_ble_eq_true rfl) (by omega) ?_
  refine lv_astore_n (lv' := [(2, .ref q9), (0, .ref r), (1, .ref x)]) hx hb dX1_with_7 rfl hl (by decide) rfl (fun ls hl => ?_)
  refine lv_iconst (v := 0) hx hb dX1_with_8 (by decide) ?_
  refine lv_istore_n (lv' := [(3, .int 0), (2, .ref q9), (0, .ref r), (1, .ref x)]) hx hb dX1_with_9 rfl hl (by decide) rfl (fun ls hl => ?_)
  have e0 : (fun _ : Nat => (none : Option Nat)) = (fun j => if j < 0 then fq j else none) := by funext j; rw [if_neg (Nat.not_lt_zero j)]
  rw [e0] at hP hD
  refine kr_lpH (nL := 4) (fun z : Nat => [(3, .int (nI z)), (2, .ref q9), (0, .ref r), (1, .ref x)]) (fun z H locs => (z ≤ n) ∧ va_P D vwCl (ws ++ [(q9, .inl (cA, n + 1, .inr (.inr (.inr (.inr (fun j => if j < z then fq j else none))))))]) H ∧ va_D (fun _ => True) (ws ++ [(q9, .inl (cA, n + 1, .inr (.inr (.inr (.inr (fun j => if j < z then fq j else none))))))]) ∧ va_S AA s.heap H locs) (fun z => n - z) ?_ (0) ⟨by omega, hP, hD, hS⟩ (lv_sub hl [0, 1, 2, 3] rfl)
  clear hl hP hS hD e0
  intro z H locs ls hI hl ih
  obtain ⟨i, rfl⟩ : ∃ y, y = z := ⟨_, rfl⟩
  have hl : lv_has ls 4 [(3, .int (nI i)), (2, .ref q9), (0, .ref r), (1, .ref x)] := hl
  obtain ⟨hi2, hP, hD, hS⟩ : (i ≤ n) ∧ va_P D vwCl (ws ++ [(q9, .inl (cA, n + 1, .inr (.inr (.inr (.inr (fun j => if j < i then fq j else none))))))]) H ∧ va_D (fun _ => True) (ws ++ [(q9, .inl (cA, n + 1, .inr (.inr (.inr (.inr (fun j => if j < i then fq j else none))))))]) ∧ va_S AA s.heap H locs := hI
  refine lv_iload_n hx hb dX1_with_10 rfl (lv_at hl 0 rfl) ?_
  refine lv_aload_n hx hb dX1_with_11 rfl (lv_at hl 2 rfl) ?_
  refine va_alen hx hb hK hP _ 1 (kr_gl ha) rfl rfl dX1_with_12 ?_
  refine lv_icmp_ge (tgt := 28) hx hb dX1_with_13 (by decide) (fun c13 => ?_) (fun c13 => ?_)
  · have e1 : i = n := by have := kr_ge (by omega) (by omega) c13; omega
    subst e1
    refine lv_aload_n hx hb dX1_with_28 rfl (lv_at hl 1 rfl) ?_
    refine lv_aload_n hx hb dX1_with_29 rfl (lv_at hl 2 rfl) ?_
    refine va_alen hx hb hK hP _ 1 (kr_gl ha) rfl rfl dX1_with_30 ?_
    refine lv_aload_n hx hb dX1_with_31 rfl (lv_at hl 3 rfl) ?_
    obtain ⟨n1, f1, hin⟩ := hlast
    obtain ⟨i1, hi1⟩ := List.getElem?_of_mem hin
    refine kr_astq hx hb hZ hK hP hD hS (hA q9 hq9) (ws.length + 0) i1 (kr_gr rfl) (kr_gl hi1) i (by omega) (by omega) dX1_with_32 (fun H1 locs1 hP hD hS => ?_)
    rw [kr_lset1] at hP hD
    refine lv_aload_n hx hb dX1_with_33 rfl (lv_at hl 1 rfl) ?_
    have hP := kr_Pr hP
    have hP : va_P D vwCl [(q9, .inl (cA, i + 1, .inr (.inr (.inr (.inr (fun j => if j = i then some x else if j < i then fq j else none))))))] H1 := kr_pm.mpr (fun x2 hx9 => by
      rw [List.mem_singleton.mp hx9]
      refine kr_cgQ (kr_pm.mp hP _ (List.mem_singleton.mpr rfl)) (fun j hj => ?_)
      by_cases e : j = i
      · rw [e, va_up_self, if_pos rfl]
      · rw [va_up_ne _ _ e, if_neg e])
    exact kr_nR hx hb hr hlocks hS hP (hA q9 hq9) dX1_with_34
  · have hi3 : i < n := kr_lt (by omega) (by omega) c13
    refine lv_aload_n hx hb dX1_with_16 rfl (lv_at hl 1 rfl) ?_
    refine lv_iload_n hx hb dX1_with_17 rfl (lv_at hl 0 rfl) ?_
    refine lv_aload_n hx hb dX1_with_18 rfl (lv_at hl 2 rfl) ?_
    refine lv_iload_n hx hb dX1_with_19 rfl (lv_at hl 0 rfl) ?_
    obtain ⟨v, n1, f1, ev, hin⟩ := hrows i hi3
    obtain ⟨i1, hi1⟩ := List.getElem?_of_mem hin
    refine kr_aldq hx hb hK hP i0 (kr_gl ha) i hi3 (by omega) ev dX1_with_20 ?_
    refine kr_astq hx hb hZ hK hP hD hS (hA q9 hq9) (ws.length + 0) i1 (kr_gr rfl) (kr_gl hi1) i (by omega) (by omega) dX1_with_21 (fun H1 locs1 hP hD hS => ?_)
    rw [kr_lset1] at hP hD
    have e1 : va_up (fun j => if j < i then fq j else none) i (some v) = (fun j => if j < i + 1 then fq j else none) := by
      funext j
      by_cases e : j = i
      · rw [e, va_up_self, if_pos (by omega), ev]
      · rw [va_up_ne _ _ e]; by_cases e2 : j < i
        · rw [if_pos e2, if_pos (by omega)]
        · rw [if_neg e2, if_neg (by omega)]
    rw [e1] at hP hD
    refine lv_iinc (v := nI (i + 1)) (lv' := [(3, .int (nI (i + 1))), (2, .ref q9), (0, .ref r), (1, .ref x)]) hx hb dX1_with_22 hl (k := 0) rfl (kr_inc _) (by decide) rfl (fun ls hl => ?_)
    refine lv_goto (tgt := 10) hx hb dX1_with_25 (by decide) ?_
    exact ih (i + 1) _ _ ls ⟨show i + 1 ≤ n by omega, hP, hD, hS⟩ (by show n - (i + 1) < n - i; omega) (lv_sub hl [0, 1, 2, 3] rfl)
theorem kg_RX1_25 : GoodIn kr_all (wsV RX1 25 RX1 yX1_form (Cond.code yX1_form cX1_form 5 (some (.array .int)) :: kr_all)) := kr_gV kq_407 kq_408 kq_409 kq_26 kq_410
set_option maxHeartbeats 4000000 in
set_option maxRecDepth 100000 in
theorem c_X1_gives (l : Launch) (D : va_G) (cy cz : ClassId) (g : Nat) (ad : Nat → Nat → Nat) (N L : Nat) (A : Nat → Nat → Int32) (sz : Nat) (q : Nat) (ld : Int32) (hw : kr_wf N L A) (hq : q < L) : Met l yX1_gives (Cond.code yX1_gives cX1_gives 5 (some .int) :: kr_all) ({ frames := 1, cells := 5, slots := 10, locals := 24 }) (va_Pc [.ref g, .int (nI q), .int ld] (kr_Sn D (kr_SW cy cz g ad N L A) cy cz sz)) (va_Qi (fun r (_ : Unit) => r = kr_gw A q ld) (fun _ _ => True) (va_A [] sz)) 5 10 (va_A [] sz) := by
  refine kr_ofN (Qc := fun AA => va_Qi (fun r (_ : Unit) => r = kr_gw A q ld) (fun _ _ => True) AA) (by decide) (Nat.le_of_ble_eq_true rfl) ?_
  intro p e s m below meth c ls AA hx hb hml hr hts hown hlocks hA hAA hP hK hD hZ hS hl
  have hown : s.vm.findClass RX1 = some m.cls := hown
  have hl : lv_has ls 5 [(0, .ref g), (1, .int (nI q)), (2, .int ld)] := hl
  have hN := hw.1
  have hL := hw.2.1
  have hrc := (hw.rc hq).1
  refine lv_iconst (v := 0) hx hb dX1_gives_0 (by decide) ?_
  refine lv_istore_n (lv' := [(3, .int 0), (0, .ref g), (1, .int (nI q)), (2, .int ld)]) hx hb dX1_gives_1 rfl hl (by decide) rfl (fun ls hl => ?_)
  refine kr_lpC (nL := 5) (fun z : Nat => [(3, .int (nI z)), (0, .ref g), (1, .int (nI q)), (2, .int ld)]) (fun z H locs => (z ≤ kr_rc A q ∧ kr_fg A q ld (kr_rc A q - z) z = kr_gw A q ld) ∧ va_P D vwCl (kr_SW cy cz g ad N L A) H ∧ va_S AA s.heap H locs) (fun z => kr_rc A q - z) (fun z => z) (fun z => 2 * z) ?_ (0) ⟨⟨by omega, rfl⟩, hP, hS⟩ (lv_sub hl [0, 1, 2, 3] rfl)
  clear hl hP hS
  intro z H locs ls hI hl ih
  obtain ⟨i, rfl⟩ : ∃ y, y = z := ⟨_, rfl⟩
  have hl : lv_has ls 5 [(3, .int (nI i)), (0, .ref g), (1, .int (nI q)), (2, .int ld)] := hl
  obtain ⟨⟨hi0, he⟩, hP, hS⟩ : (i ≤ kr_rc A q ∧ kr_fg A q ld (kr_rc A q - i) i = kr_gw A q ld) ∧ va_P D vwCl (kr_SW cy cz g ad N L A) H ∧ va_S AA s.heap H locs := hI
  show W p l e _ s m _ below meth c H locs (i) (2 * i) _ (F0 m 2 ls [])
  refine lv_iload_n hx hb dX1_gives_2 rfl (lv_at hl 0 rfl) ?_
  refine lv_aload_n hx hb dX1_gives_3 rfl (lv_at hl 1 rfl) ?_
  refine va_get (ci := 1) (v := .ref (ad 0 1)) (C := RX1) (T := TX1) (N := 3) hx hb hts kr_wsX1 hown hK hP 0 rfl rfl 1 (by decide) (hts _ kq_513) (fun _ h9 => h9) rfl dX1_gives_4 ?_
  refine lv_iload_n hx hb dX1_gives_7 rfl (lv_at hl 2 rfl) ?_
  refine kr_rdO hx hb hK hP 1 L rfl q (by omega) (by omega) dX1_gives_8 ?_
  refine kr_lnR hx hb hK hP (by omega) dX1_gives_9 ?_
  refine lv_icmp_ge (tgt := 55) hx hb dX1_gives_10 (by decide) (fun c10 => ?_) (fun c10 => ?_)
  · have hi2 : i = kr_rc A q := by have := kr_ge (by omega) (by omega) c10; omega
    subst hi2
    refine lv_iconst (v := -1) hx hb dX1_gives_55 (by decide) ?_
    refine W.widen (k := 5) (n := 10) (by omega) (by omega) ?_
    exact kr_nI hx hb hr hlocks hS (by rw [Nat.sub_self] at he; exact he) dX1_gives_56
  · have hi : i < kr_rc A q := kr_lt (by omega) (by omega) c10
    obtain ⟨k, hk, ek⟩ := hw.tk hq hi
    refine lv_aload_n hx hb dX1_gives_13 rfl (lv_at hl 1 rfl) ?_
    refine lv_aload_n hx hb dX1_gives_14 rfl (lv_at hl 1 rfl) ?_
    refine va_get (ci := 1) (v := .ref (ad 0 2)) (C := RX1) (T := TX1) (N := 3) hx hb hts kr_wsX1 hown hK hP 0 rfl rfl 2 (by decide) (hts _ kq_515) (fun _ h9 => h9) rfl dX1_gives_15 ?_
    refine lv_iload_n hx hb dX1_gives_18 rfl (lv_at hl 2 rfl) ?_
    refine kr_rdO hx hb hK hP 2 L rfl q (by omega) (by omega) dX1_gives_19 ?_
    refine lv_iload_n hx hb dX1_gives_20 rfl (lv_at hl 0 rfl) ?_
    refine kr_rdT hx hb hK hP (q := q) (by omega) i (by omega) (by omega) dX1_gives_21 ?_
    rw [ek]
    refine lv_iload_n hx hb dX1_gives_22 rfl (lv_at hl 3 rfl) ?_
    refine kr_vNR (n := 2) (mc := 1) (ms := 2) (BB := fun _ => True) (As := [.int (nI k), .int ld]) (rest := []) ⟨hx, hb, hml, hown, hts⟩ (c_X1_form l D cy cz g ad N L A _ k ld hw hk) kg_RX1_25 ⟨rfl, rfl⟩ (by decide +kernel) ⟨Nat.le_of_ble_eq_true rfl, Nat.le_of_ble_eq_true rfl⟩ (va_recv hK hP (ci := 1) (q0 := 0) rfl rfl) hP hK hD (fun _ _ => trivial) hZ hS hA rfl hl.1 rfl (Nat.le_of_ble_eq_true rfl) dX1_gives_23 ⟨show i + 1 ≤ 5 by omega, show 2 * i + 2 ≤ 10 by omega⟩ (fun q9 H1 locs1 hk9 hP hD1 hS => ?_)
    clear hk9 hD1
    refine lv_iconst (v := 0) hx hb dX1_gives_26 (by decide) ?_
    refine kr_ald hx hb hK hP ((kr_SW cy cz g ad N L A).length + 0) 0 (kr_gr rfl) rfl 0 (by decide) (by decide) dX1_gives_27 ?_
    have hP := kr_Pl hP
    generalize H1 = H at hP hS ⊢
    generalize locs1 = locs at hS ⊢
    show W _ _ _ _ _ _ _ _ _ _ _ _ _ _ _ (F0 _ _ _ (.int (kr_fm A ld 16 (nI k)) :: _))
    refine lv_topi (fun y ey => ?_)
    have hph : kr_ph A q ld i ↔ y ≠ -1 ∧ ld ≤ kr_st A q i y := by unfold kr_ph; rw [ek, ey]
    have hy : kr_kn N y := by rw [ey]; exact kr_fm_kn hw 16 _ (Or.inr ⟨k, hk, rfl⟩)
    refine lv_istore (lv' := [(4, .int y), (3, .int (nI i)), (0, .ref g), (1, .int (nI q)), (2, .int ld)]) hx hb dX1_gives_28 hl (by decide) rfl (fun ls hl => ?_)
    refine lv_iload hx hb dX1_gives_30 (lv_at hl 0 rfl) ?_
    refine lv_if_lt (tgt := 47) hx hb dX1_gives_32 (by decide) (fun c32 => ?_) (fun c32 => ?_)
    · have hno : ¬ kr_ph A q ld i := fun w => by have := hph.mp w; rcases hy with e | ⟨j, hj, e⟩; exact this.1 e; rw [e] at c32; exact nI_pos (by omega) c32
      refine lv_iload_n hx hb dX1_gives_47 rfl (lv_at hl 1 rfl) ?_
      refine W.widen (k := 5) (n := 10) (by omega) (by omega) ?_
      exact kr_nI hx hb hr hlocks hS ((kr_fg_no hno hi).symm.trans he) dX1_gives_48
    · obtain ⟨j, hj, rfl⟩ : ∃ j, j < N ∧ y = nI j := by
        rcases hy with e | h
        · rw [e] at c32; exact absurd (by decide) c32
        · exact h
      refine lv_aload_n hx hb dX1_gives_35 rfl (lv_at hl 2 rfl) ?_
      refine lv_iload_n hx hb dX1_gives_36 rfl (lv_at hl 3 rfl) ?_
      refine lv_iload_n hx hb dX1_gives_37 rfl (lv_at hl 1 rfl) ?_
      refine lv_iload hx hb dX1_gives_38 (lv_at hl 0 rfl) ?_
      refine kr_vI (n := 3) (As := [.int (nI q), .int (nI i), .int (nI j)]) (rest := []) ⟨hx, hb, hml, hown, hts⟩ (c_X1_strength l D cy cz g ad N L A q i j hw (by omega) (by omega) (by omega)) kg_RX1_29 ⟨rfl, rfl⟩ (by decide +kernel) ⟨Nat.le_of_ble_eq_true rfl, Nat.le_of_ble_eq_true rfl⟩ (kr_pvs hP hK) rfl hl.1 rfl (Nat.le_of_ble_eq_true rfl) dX1_gives_40 ⟨show i + 1 ≤ 5 by omega, show 2 * i + 2 ≤ 10 by omega⟩ (fun r9 e9 => ?_)
      subst e9
      refine lv_iload_n hx hb dX1_gives_43 rfl (lv_at hl 4 rfl) ?_
      refine lv_icmp_ge (tgt := 49) hx hb dX1_gives_44 (by decide) (fun c44 => ?_) (fun c44 => ?_)
      · refine lv_iinc (v := nI (i + 1)) (lv' := [(3, .int (nI (i + 1))), (4, .int (nI j)), (0, .ref g), (1, .int (nI q)), (2, .int ld)]) hx hb dX1_gives_49 hl (k := 1) rfl (kr_inc _) (by decide) rfl (fun ls hl => ?_)
        refine lv_goto (tgt := 2) hx hb dX1_gives_52 (by decide) ?_
        refine W.widen (k := i + 1) (n := 2 * (i + 1)) (by omega) (by omega) ?_
        exact ih (i + 1) _ _ ls ⟨⟨show i + 1 ≤ kr_rc A q by omega, (kr_fg_s (hph.mpr ⟨kr_kn_ne (by omega), c44⟩) hi).symm.trans he⟩, hP, hS⟩ (by show kr_rc A q - (i + 1) < kr_rc A q - i; omega) (lv_sub hl [0, 2, 3, 4] rfl)
      · have hno : ¬ kr_ph A q ld i := fun w => c44 (hph.mp w).2
        refine lv_iload_n hx hb dX1_gives_47 rfl (lv_at hl 1 rfl) ?_
        refine W.widen (k := 5) (n := 10) (by omega) (by omega) ?_
        exact kr_nI hx hb hr hlocks hS ((kr_fg_no hno hi).symm.trans he) dX1_gives_48
