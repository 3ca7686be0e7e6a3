theorem kr_m1N {j : Nat} (hj : j < 2 ^ 30) : nI j - 1 < 0 ↔ j = 0 := by
  have h1 : (nI j - 1).toInt = (j : Int) - 1 := pk_sub_toInt (a := j) (b := 1) hj (by decide)
  rw [Int32.lt_iff_toInt_lt, h1, show (0 : Int32).toInt = 0 by decide]; omega
theorem kr_decN (i : Nat) : nI i + Int32.ofInt (-1) = nI i - 1 := by
  rw [show Int32.ofInt (-1) = -1 by decide, Int32.sub_eq_add_neg]
/-- the weakest place so far, from the end -/
def kr_wi (A : Nat → Nat → Int32) (q j : Nat) (b : Int32) : Prop := (j = kr_rc A q ∧ b = -1) ∨ ∃ i, j ≤ i ∧ i < kr_rc A q ∧ b = nI i ∧ (∀ k, j ≤ k → k < kr_rc A q → (kr_nw A q i).toInt ≤ (kr_nw A q k).toInt) ∧ ∀ k, j ≤ k → k < i → (kr_nw A q i).toInt < (kr_nw A q k).toInt
theorem kr_wi_end {A : Nat → Nat → Int32} {q : Nat} {b : Int32} (hr : kr_rc A q ≤ 5) (h : kr_wi A q 0 b) : b = kr_wk A q (kr_rc A q) 0 (-1) := by
  rcases kr_wkO (A := A) hr with ⟨h1, h2⟩ | ⟨j, a1, a2, a3, a4⟩
  · rcases h with ⟨-, h3⟩ | ⟨i, b1, b2, -⟩
    · rw [h2, h3]
    · omega
  · rcases h with ⟨h3, -⟩ | ⟨i, b1, b2, b3, b4, b5⟩
    · omega
    · rw [a2, b3]
      have c1 := a3 i b2
      have c2 := b4 j (Nat.zero_le _) a1
      have e : i = j := by
        rcases Nat.lt_trichotomy i j with w | w | w
        · have := a4 i w; omega
        · exact w
        · have := b5 j (Nat.zero_le _) w; omega
      rw [e]
theorem kr_wi_s {A : Nat → Nat → Int32} {q i j : Nat} (hj : j < kr_rc A q) (hb : i < kr_rc A q) (hji : j + 1 ≤ i) (h4 : ∀ k, j + 1 ≤ k → k < kr_rc A q → (kr_nw A q i).toInt ≤ (kr_nw A q k).toInt) (h5 : ∀ k, j + 1 ≤ k → k < i → (kr_nw A q i).toInt < (kr_nw A q k).toInt) : (kr_nw A q i < kr_nw A q j → kr_wi A q j (nI i)) ∧ (¬ kr_nw A q i < kr_nw A q j → kr_wi A q j (nI j)) := by
  constructor
  · intro h
    rw [Int32.lt_iff_toInt_lt] at h
    refine Or.inr ⟨i, by omega, hb, rfl, fun k h1 h2 => ?_, fun k h1 h2 => ?_⟩
    · by_cases e : k = j
      · rw [e]; omega
      · exact h4 k (by omega) h2
    · by_cases e : k = j
      · rw [e]; exact h
      · exact h5 k (by omega) h2
  · intro h
    rw [Int32.lt_iff_toInt_lt] at h
    refine Or.inr ⟨j, Nat.le_refl _, hj, rfl, fun k h1 h2 => ?_, fun k h1 h2 => by omega⟩
    by_cases e : k = j
    · rw [e]; exact Int.le_refl _
    · have := h4 k (by omega) h2; omega
theorem kg_RX1_29 : GoodIn kr_all (wsV RX1 29 RX1 yX1_strength (Cond.code yX1_strength cX1_strength 5 (some .int) :: kr_all)) := kr_gV kq_411 kq_412 kq_413 kq_26 kq_414
set_option maxHeartbeats 4000000 in
set_option maxRecDepth 100000 in
theorem c_X1_weakest (l : Launch) (D : va_G) (cy cz : ClassId) (g : Nat) (ad : Nat → Nat → Nat) (N L : Nat) (A : Nat → Nat → Int32) (q : Nat) (hw : kr_wf N L A) (hq : q < L) : Met l yX1_weakest (Cond.code yX1_weakest cX1_weakest 4 (some .int) :: kr_all) ({ frames := 1, cells := 0, slots := 0, locals := 24 }) (va_Pc [.ref g, .int (nI q)] (kr_S D (kr_SW cy cz g ad N L A) cy cz)) (vp_Si (fun r => r = kr_wk A q (kr_rc A q) 0 (-1))) 0 0 (fun _ => False) := by
  refine kr_of (by decide) (Nat.le_of_ble_eq_true rfl) ?_
  intro p e s m below meth c ls hx hb hml hr hts hown hlocks hin hv hl
  obtain ⟨hP, hK⟩ := hv
  have hown : s.vm.findClass RX1 = some m.cls := hown
  have hl : lv_has ls 4 [(0, .ref g), (1, .int (nI q))] := hl
  have hN := hw.1
  have hL := hw.2.1
  have hrc := (hw.rc hq).1
  refine lv_iconst (v := -1) hx hb dX1_weakest_0 (by decide) ?_
  refine lv_istore_n (lv' := [(2, .int (-1)), (0, .ref g), (1, .int (nI q))]) hx hb dX1_weakest_1 rfl hl (by decide) rfl (fun ls hl => ?_)
  refine lv_aload_n hx hb dX1_weakest_2 rfl (lv_at hl 1 rfl) ?_
  refine va_get (ci := 1) (v := .ref (ad 0 2)) (C := RX1) (T := TX1) (N := 3) hx hb hts kr_wsX1 hown hK hP 0 rfl rfl 2 (by decide) (hts _ kq_515) (fun _ h9 => h9) rfl dX1_weakest_3 ?_
  refine lv_iload_n hx hb dX1_weakest_6 rfl (lv_at hl 2 rfl) ?_
  refine kr_rdO hx hb hK hP 2 L rfl q (by omega) (by omega) dX1_weakest_7 ?_
  refine kr_lnT hx hb hK hP (by omega) dX1_weakest_8 ?_
  refine lv_iconst (v := 1) hx hb dX1_weakest_9 (by decide) ?_
  refine lv_isub hx hb dX1_weakest_10 ?_
  refine lv_istore_n (lv' := [(3, .int ((nI (kr_rc A q)) - 1)), (2, .int (-1)), (0, .ref g), (1, .int (nI q))]) hx hb dX1_weakest_11 rfl hl (by decide) rfl (fun ls hl => ?_)
  refine kr_lp (nL := 4) (fun z : Nat × Int32 => [(3, .int (nI z.1 - 1)), (2, .int z.2), (0, .ref g), (1, .int (nI q))]) (fun z => z.1 ≤ kr_rc A q ∧ kr_wi A q z.1 z.2) (fun z => z.1) ?_ (kr_rc A q, -1) ⟨Nat.le_refl _, Or.inl ⟨rfl, rfl⟩⟩ (lv_sub hl [0, 1, 2, 3] rfl)
  clear hl
  intro z ls hI hl ih
  obtain ⟨j, b⟩ := z
  have hl : lv_has ls 4 [(3, .int (nI j - 1)), (2, .int b), (0, .ref g), (1, .int (nI q))] := hl
  obtain ⟨hj, hb0⟩ : j ≤ kr_rc A q ∧ kr_wi A q j b := hI
  refine lv_iload_n hx hb dX1_weakest_12 rfl (lv_at hl 0 rfl) ?_
  refine lv_if_lt (tgt := 59) hx hb dX1_weakest_13 (by decide) (fun c13 => ?_) (fun c13 => ?_)
  · have hj0 := (kr_m1N (by omega)).mp c13
    subst hj0
    refine lv_iload_n hx hb dX1_weakest_59 rfl (lv_at hl 1 rfl) ?_
    exact kr_eI hx hb hr hlocks rfl (kr_wi_end hrc hb0) dX1_weakest_60
  · have hj0 : j ≠ 0 := fun w => c13 ((kr_m1N (by omega)).mpr w)
    obtain ⟨i, rfl⟩ : ∃ i, j = i + 1 := ⟨j - 1, by omega⟩
    rw [nI_pred] at hl
    refine lv_iload_n hx hb dX1_weakest_16 rfl (lv_at hl 1 rfl) ?_
    refine lv_if_lt (tgt := 51) hx hb dX1_weakest_17 (by decide) (fun c17 => ?_) (fun c17 => ?_)
    · have hb1 : kr_wi A q i (nI i) := by
        rcases hb0 with ⟨h1, h2⟩ | ⟨i2, a1, a2, a3, -⟩
        · exact Or.inr ⟨i, Nat.le_refl _, by omega, rfl, fun k h3 h4 => by rw [show k = i by omega]; exact Int.le_refl _, fun k h3 h4 => by omega⟩
        · rw [a3] at c17; exact absurd c17 (nI_pos (by omega))
      refine lv_iload_n hx hb dX1_weakest_51 rfl (lv_at hl 0 rfl) ?_
      refine lv_istore_n (lv' := [(2, .int (nI i)), (3, .int (nI i)), (0, .ref g), (1, .int (nI q))]) hx hb dX1_weakest_52 rfl hl (by decide) rfl (fun ls hl => ?_)
      refine lv_iinc (v := nI i - 1) (lv' := [(3, .int (nI i - 1)), (2, .int (nI i)), (0, .ref g), (1, .int (nI q))]) hx hb dX1_weakest_53 hl (k := 1) rfl (kr_decN i) (by decide) rfl (fun ls hl => ?_)
      refine lv_goto (tgt := 12) hx hb dX1_weakest_56 (by decide) ?_
      exact ih (i, nI i) ls ⟨by omega, hb1⟩ (by show i < i + 1; omega) (lv_sub hl [0, 1, 2, 3] rfl)
    · obtain ⟨i2, a1, a2, rfl, a4, a5⟩ : ∃ i2, i + 1 ≤ i2 ∧ i2 < kr_rc A q ∧ b = nI i2 ∧ (∀ k, i + 1 ≤ k → k < kr_rc A q → (kr_nw A q i2).toInt ≤ (kr_nw A q k).toInt) ∧ ∀ k, i + 1 ≤ k → k < i2 → (kr_nw A q i2).toInt < (kr_nw A q k).toInt := by
        rcases hb0 with ⟨h1, h2⟩ | h
        · rw [h2] at c17; exact absurd (by decide) c17
        · exact h
      obtain ⟨k, hk, ek⟩ := hw.tk hq (show i < kr_rc A q by omega)
      obtain ⟨k2, hk2, ek2⟩ := hw.tk hq a2
      refine lv_aload_n hx hb dX1_weakest_20 rfl (lv_at hl 2 rfl) ?_
      refine lv_iload_n hx hb dX1_weakest_21 rfl (lv_at hl 3 rfl) ?_
      refine lv_iload_n hx hb dX1_weakest_22 rfl (lv_at hl 0 rfl) ?_
      refine lv_aload_n hx hb dX1_weakest_23 rfl (lv_at hl 2 rfl) ?_
      refine va_get (ci := 1) (v := .ref (ad 0 2)) (C := RX1) (T := TX1) (N := 3) hx hb hts kr_wsX1 hown hK hP 0 rfl rfl 2 (by decide) (hts _ kq_515) (fun _ h9 => h9) rfl dX1_weakest_24 ?_
      refine lv_iload_n hx hb dX1_weakest_27 rfl (lv_at hl 3 rfl) ?_
      refine kr_rdO hx hb hK hP 2 L rfl q (by omega) (by omega) dX1_weakest_28 ?_
      refine lv_iload_n hx hb dX1_weakest_29 rfl (lv_at hl 0 rfl) ?_
      refine kr_rdT hx hb hK hP (q := q) (by omega) i (by omega) (by omega) dX1_weakest_30 ?_
      rw [ek]
      refine kr_vI (n := 3) (As := [.int (nI q), .int (nI i), .int (nI k)]) (rest := []) ⟨hx, hb, hml, hown, hts⟩ (c_X1_strength l D cy cz g ad N L A q i k hw (by omega) (by omega) (by omega)) kg_RX1_29 ⟨rfl, rfl⟩ (by decide +kernel) ⟨Nat.le_of_ble_eq_true rfl, Nat.le_of_ble_eq_true rfl⟩ (kr_pvs hP hK) rfl hl.1 rfl (Nat.le_of_ble_eq_true rfl) dX1_weakest_31 ⟨Nat.zero_le _, Nat.zero_le _⟩ (fun r9 e9 => ?_)
      subst e9
      refine lv_aload_n hx hb dX1_weakest_34 rfl (lv_at hl 2 rfl) ?_
      refine lv_iload_n hx hb dX1_weakest_35 rfl (lv_at hl 3 rfl) ?_
      refine lv_iload_n hx hb dX1_weakest_36 rfl (lv_at hl 1 rfl) ?_
      refine lv_aload_n hx hb dX1_weakest_37 rfl (lv_at hl 2 rfl) ?_
      refine va_get (ci := 1) (v := .ref (ad 0 2)) (C := RX1) (T := TX1) (N := 3) hx hb hts kr_wsX1 hown hK hP 0 rfl rfl 2 (by decide) (hts _ kq_515) (fun _ h9 => h9) rfl dX1_weakest_38 ?_
      refine lv_iload_n hx hb dX1_weakest_41 rfl (lv_at hl 3 rfl) ?_
      refine kr_rdO hx hb hK hP 2 L rfl q (by omega) (by omega) dX1_weakest_42 ?_
      refine lv_iload_n hx hb dX1_weakest_43 rfl (lv_at hl 1 rfl) ?_
      refine kr_rdT hx hb hK hP (q := q) (by omega) i2 (by omega) (by omega) dX1_weakest_44 ?_
      rw [ek2]
      refine kr_vI (n := 3) (As := [.int (nI q), .int (nI i2), .int (nI k2)]) (rest := [.int (kr_st A q i (nI k))]) ⟨hx, hb, hml, hown, hts⟩ (c_X1_strength l D cy cz g ad N L A q i2 k2 hw (by omega) (by omega) (by omega)) kg_RX1_29 ⟨rfl, rfl⟩ (by decide +kernel) ⟨Nat.le_of_ble_eq_true rfl, Nat.le_of_ble_eq_true rfl⟩ (kr_pvs hP hK) rfl hl.1 rfl (Nat.le_of_ble_eq_true rfl) dX1_weakest_45 ⟨Nat.zero_le _, Nat.zero_le _⟩ (fun r9 e9 => ?_)
      subst e9
      have e1 : kr_st A q i (nI k) = kr_nw A q i := by unfold kr_nw; rw [ek]
      have e2 : kr_st A q i2 (nI k2) = kr_nw A q i2 := by unfold kr_nw; rw [ek2]
      have hs := kr_wi_s (A := A) (q := q) (i := i2) (j := i) (by omega) a2 a1 a4 a5
      refine lv_icmp_gt (tgt := 53) hx hb dX1_weakest_48 (by decide) (fun c48 => ?_) (fun c48 => ?_)
      · refine lv_iinc (v := nI i - 1) (lv' := [(3, .int (nI i - 1)), (2, .int (nI i2)), (0, .ref g), (1, .int (nI q))]) hx hb dX1_weakest_53 hl (k := 0) rfl (kr_decN i) (by decide) rfl (fun ls hl => ?_)
        refine lv_goto (tgt := 12) hx hb dX1_weakest_56 (by decide) ?_
        exact ih (i, nI i2) ls ⟨by omega, hs.1 (by rw [e1, e2] at c48; exact c48)⟩ (by show i < i + 1; omega) (lv_sub hl [0, 1, 2, 3] rfl)
      · refine lv_iload_n hx hb dX1_weakest_51 rfl (lv_at hl 0 rfl) ?_
        refine lv_istore_n (lv' := [(2, .int (nI i)), (3, .int (nI i)), (0, .ref g), (1, .int (nI q))]) hx hb dX1_weakest_52 rfl hl (by decide) rfl (fun ls hl => ?_)
        refine lv_iinc (v := nI i - 1) (lv' := [(3, .int (nI i - 1)), (2, .int (nI i)), (0, .ref g), (1, .int (nI q))]) hx hb dX1_weakest_53 hl (k := 1) rfl (kr_decN i) (by decide) rfl (fun ls hl => ?_)
        refine lv_goto (tgt := 12) hx hb dX1_weakest_56 (by decide) ?_
        exact ih (i, nI i) ls ⟨by omega, hs.2 (by rw [e1, e2] at c48; exact c48)⟩ (by show i < i + 1; omega) (lv_sub hl [0, 1, 2, 3] rfl)
set_option maxHeartbeats 4000000 in
set_option maxRecDepth 100000 in
theorem c_X1_form (l : Launch) (D : va_G) (cy cz : ClassId) (g : Nat) (ad : Nat → Nat → Nat) (N L : Nat) (A : Nat → Nat → Int32) (sz : Nat) (k : Nat) (ld : Int32) (hw : kr_wf N L A) (hk : k < N) : Met l yX1_form (Cond.code yX1_form cX1_form 5 (some (.array .int)) :: kr_all) ({ frames := 0, cells := 1, slots := 2, locals := 0 }) (va_Pc [.ref g, .int (nI k), .int ld] (kr_Sn D (kr_SW cy cz g ad N L A) cy cz sz)) (va_Qr (fun (_ : Unit) => True) (fun _ q t => va_P D vwCl [(q, .inl (cy, 2, .inl (fun j => if j = 0 then kr_fm A ld 16 (nI k) else nI (kr_sp A ld 16 (nI k)))))] t.heap ∧ va_D (va_A [] sz) [(q, .inl (cy, 2, .inl (fun j => if j = 0 then kr_fm A ld 16 (nI k) else nI (kr_sp A ld 16 (nI k)))))]) (va_A [] sz)) 1 2 (va_A [] sz) := by
  refine kr_ofN (Qc := fun AA => va_Qr (fun (_ : Unit) => True) (fun _ q t => va_P D vwCl [(q, .inl (cy, 2, .inl (fun j => if j = 0 then kr_fm A ld 16 (nI k) else nI (kr_sp A ld 16 (nI k)))))] t.heap ∧ va_D AA [(q, .inl (cy, 2, .inl (fun j => if j = 0 then kr_fm A ld 16 (nI k) else nI (kr_sp A ld 16 (nI k)))))]) AA) (by decide) (Nat.le_of_ble_eq_true rfl) ?_
  intro p e s m below meth c ls AA hx hb hml hr hts hown hlocks hA hAA hP hK hD hZ hS hl
  have hown : s.vm.findClass RX1 = some m.cls := hown
  have hl : lv_has ls 5 [(0, .ref g), (1, .int (nI k)), (2, .int ld)] := hl
  have hN := hw.1
  refine lv_iload_n hx hb dX1_form_0 rfl (lv_at hl 1 rfl) ?_
  refine lv_istore_n (lv' := [(3, .int (nI k)), (0, .ref g), (1, .int (nI k)), (2, .int ld)]) hx hb dX1_form_1 rfl hl (by decide) rfl (fun ls hl => ?_)
  refine lv_iconst (v := 0) hx hb dX1_form_2 (by decide) ?_
  refine lv_istore (lv' := [(4, .int 0), (3, .int (nI k)), (0, .ref g), (1, .int (nI k)), (2, .int ld)]) hx hb dX1_form_3 hl (by decide) rfl (fun ls hl => ?_)
  refine kr_lp (nL := 5) (fun z : Int32 × Nat => [(4, .int (nI z.2)), (3, .int z.1), (0, .ref g), (1, .int (nI k)), (2, .int ld)]) (fun z => kr_kn N z.1 ∧ kr_fm A ld 16 z.1 = kr_fm A ld 16 (nI k) ∧ kr_sp A ld 16 z.1 + z.2 = kr_sp A ld 16 (nI k)) (fun z => kr_mz z.1) ?_ (nI k, 0) ⟨Or.inr ⟨k, hk, rfl⟩, rfl, rfl⟩ (lv_sub hl [0, 1, 2, 3, 4] rfl)
  clear hl
  intro z ls hI hl ih
  obtain ⟨y, o⟩ := z
  have hl : lv_has ls 5 [(4, .int (nI o)), (3, .int y), (0, .ref g), (1, .int (nI k)), (2, .int ld)] := hl
  obtain ⟨hy, hf, hs⟩ : kr_kn N y ∧ kr_fm A ld 16 y = kr_fm A ld 16 (nI k) ∧ kr_sp A ld 16 y + o = kr_sp A ld 16 (nI k) := hI
  refine lv_iload_n hx hb dX1_form_5 rfl (lv_at hl 1 rfl) ?_
  refine lv_if_lt (tgt := 47) hx hb dX1_form_6 (by decide) (fun c6 => ?_) (fun c6 => ?_)
  · have hng : ¬ kr_go A ld y := fun w => by obtain ⟨j, hj, rfl⟩ := kr_go_kn hN hy w; exact absurd c6 (nI_pos (by omega))
    have e1 : y = kr_fm A ld 16 (nI k) := by rw [← hf, kr_fm_no hng]
    have e2 : nI o = nI (kr_sp A ld 16 (nI k)) := by rw [← hs, kr_sp_no hng, Nat.zero_add]
    refine lv_iconst (v := 2) hx hb dX1_form_47 (by decide) ?_
    refine kr_newF (BB := fun _ => True) hx hb hts hK hP hD (fun _ _ => trivial) hS 2 (by decide) (by decide) (by decide) (Nat.le_of_ble_eq_true rfl) (Nat.le_of_ble_eq_true rfl) dX1_form_48 (fun q9 H1 hq9 hP hD hS => ?_)
    have hP := kr_Pr hP
    have hD := kr_Dr hD
    refine lv_dup hx hb dX1_form_50 rfl ?_
    refine lv_iconst (v := 0) hx hb dX1_form_51 (by decide) ?_
    refine lv_iload_n hx hb dX1_form_52 rfl (lv_at hl 1 rfl) ?_
    refine kr_astF (tys := [(cz, .array .int)]) hx hb hK hP hD hS (hA q9 hq9) 0 rfl 0 (by decide) (by decide) dX1_form_53 (fun H1 locs hP hD hS => ?_)
    have hP : va_P D vwCl [(q9, .inl (cy, 2, .inl (upd (fun _ => 0) 0 y)))] H1 := hP
    have hD : va_D (fun _ => True) [(q9, .inl (cy, 2, .inl (upd (fun _ => 0) 0 y)))] := hD
    refine lv_dup hx hb dX1_form_54 rfl ?_
    refine lv_iconst (v := 1) hx hb dX1_form_55 (by decide) ?_
    refine lv_iload hx hb dX1_form_56 (lv_at hl 0 rfl) ?_
    refine kr_astF (tys := [(cz, .array .int)]) hx hb hK hP hD hS (hA q9 hq9) 0 rfl 1 (by decide) (by decide) dX1_form_58 (fun H1 locs hP hD hS => ?_)
    have hP : va_P D vwCl [(q9, .inl (cy, 2, .inl (upd (upd (fun _ => 0) 0 y) 1 (nI o))))] H1 := hP
    have hD : va_D (fun _ => True) [(q9, .inl (cy, 2, .inl (upd (upd (fun _ => 0) 0 y) 1 (nI o))))] := hD
    have hP : va_P D vwCl [(q9, .inl (cy, 2, .inl (fun j => if j = 0 then kr_fm A ld 16 (nI k) else nI (kr_sp A ld 16 (nI k)))))] H1 := kr_pm.mpr (fun x hx9 => by
      rw [List.mem_singleton.mp hx9]
      refine kr_cgI (kr_pm.mp hP _ (List.mem_singleton.mpr rfl)) (fun j hj => ?_)
      rcases (show j = 0 ∨ j = 1 by omega) with rfl | rfl
      · rw [pk_un (by decide), pk_us, if_pos rfl]; exact e1
      · rw [pk_us, if_neg (by decide)]; exact e2)
    exact kr_nR hx hb hr hlocks hS hP (hA q9 hq9) dX1_form_59
  · obtain ⟨j, hj, rfl⟩ : ∃ j, j < N ∧ y = nI j := by
      rcases hy with e | h
      · rw [e] at c6; exact absurd (by decide) c6
      · exact h
    refine lv_aload_n hx hb dX1_form_9 rfl (lv_at hl 2 rfl) ?_
    refine va_get (ci := 1) (v := .ref (ad 0 0)) (C := RX1) (T := TX1) (N := 3) hx hb hts kr_wsX1 hown hK hP 0 rfl rfl 0 (by decide) (hts _ kq_511) (fun _ h9 => h9) rfl dX1_form_10 ?_
    refine lv_iload_n hx hb dX1_form_13 rfl (lv_at hl 1 rfl) ?_
    refine kr_rdO hx hb hK hP 0 N rfl j (by omega) (by omega) dX1_form_14 ?_
    refine lv_iconst (v := 3) hx hb dX1_form_15 (by decide) ?_
    refine kr_rdK hx hb hK hP (k := j) (by omega) 3 (by decide) dX1_form_16 ?_
    refine lv_if_le (tgt := 47) hx hb dX1_form_17 (by decide) (fun c17 => ?_) (fun c17 => ?_)
    · have h30 : A 3 j = 0 := (kr_le0 (hw.2.2.1 j hj).2.2.1).mp c17
      have hng : ¬ kr_go A ld (nI j) := fun w => ((kr_go_nI (by omega)).mp w).1 h30
      have e1 : nI j = kr_fm A ld 16 (nI k) := by rw [← hf, kr_fm_no hng]
      have e2 : nI o = nI (kr_sp A ld 16 (nI k)) := by rw [← hs, kr_sp_no hng, Nat.zero_add]
      refine lv_iconst (v := 2) hx hb dX1_form_47 (by decide) ?_
      refine kr_newF (BB := fun _ => True) hx hb hts hK hP hD (fun _ _ => trivial) hS 2 (by decide) (by decide) (by decide) (Nat.le_of_ble_eq_true rfl) (Nat.le_of_ble_eq_true rfl) dX1_form_48 (fun q9 H1 hq9 hP hD hS => ?_)
      have hP := kr_Pr hP
      have hD := kr_Dr hD
      refine lv_dup hx hb dX1_form_50 rfl ?_
      refine lv_iconst (v := 0) hx hb dX1_form_51 (by decide) ?_
      refine lv_iload_n hx hb dX1_form_52 rfl (lv_at hl 1 rfl) ?_
      refine kr_astF (tys := [(cz, .array .int)]) hx hb hK hP hD hS (hA q9 hq9) 0 rfl 0 (by decide) (by decide) dX1_form_53 (fun H1 locs hP hD hS => ?_)
      have hP : va_P D vwCl [(q9, .inl (cy, 2, .inl (upd (fun _ => 0) 0 (nI j))))] H1 := hP
      have hD : va_D (fun _ => True) [(q9, .inl (cy, 2, .inl (upd (fun _ => 0) 0 (nI j))))] := hD
      refine lv_dup hx hb dX1_form_54 rfl ?_
      refine lv_iconst (v := 1) hx hb dX1_form_55 (by decide) ?_
      refine lv_iload hx hb dX1_form_56 (lv_at hl 0 rfl) ?_
      refine kr_astF (tys := [(cz, .array .int)]) hx hb hK hP hD hS (hA q9 hq9) 0 rfl 1 (by decide) (by decide) dX1_form_58 (fun H1 locs hP hD hS => ?_)
      have hP : va_P D vwCl [(q9, .inl (cy, 2, .inl (upd (upd (fun _ => 0) 0 (nI j)) 1 (nI o))))] H1 := hP
      have hD : va_D (fun _ => True) [(q9, .inl (cy, 2, .inl (upd (upd (fun _ => 0) 0 (nI j)) 1 (nI o))))] := hD
      have hP : va_P D vwCl [(q9, .inl (cy, 2, .inl (fun j => if j = 0 then kr_fm A ld 16 (nI k) else nI (kr_sp A ld 16 (nI k)))))] H1 := kr_pm.mpr (fun x hx9 => by
        rw [List.mem_singleton.mp hx9]
        refine kr_cgI (kr_pm.mp hP _ (List.mem_singleton.mpr rfl)) (fun j hj => ?_)
        rcases (show j = 0 ∨ j = 1 by omega) with rfl | rfl
        · rw [pk_un (by decide), pk_us, if_pos rfl]; exact e1
        · rw [pk_us, if_neg (by decide)]; exact e2)
      exact kr_nR hx hb hr hlocks hS hP (hA q9 hq9) dX1_form_59
    · have h30 : ¬ A 3 j = 0 := fun w => c17 ((kr_le0 (hw.2.2.1 j hj).2.2.1).mpr w)
      refine lv_aload_n hx hb dX1_form_20 rfl (lv_at hl 2 rfl) ?_
      refine va_get (ci := 1) (v := .ref (ad 0 0)) (C := RX1) (T := TX1) (N := 3) hx hb hts kr_wsX1 hown hK hP 0 rfl rfl 0 (by decide) (hts _ kq_511) (fun _ h9 => h9) rfl dX1_form_21 ?_
      refine lv_iload_n hx hb dX1_form_24 rfl (lv_at hl 1 rfl) ?_
      refine kr_rdO hx hb hK hP 0 N rfl j (by omega) (by omega) dX1_form_25 ?_
      refine lv_iconst (v := 3) hx hb dX1_form_26 (by decide) ?_
      refine kr_rdK hx hb hK hP (k := j) (by omega) 3 (by decide) dX1_form_27 ?_
      refine lv_iload_n hx hb dX1_form_28 rfl (lv_at hl 4 rfl) ?_
      refine lv_icmp_gt (tgt := 47) hx hb dX1_form_29 (by decide) (fun c29 => ?_) (fun c29 => ?_)
      · have hng : ¬ kr_go A ld (nI j) := fun w => kr_ngt c29 ((kr_go_nI (by omega)).mp w).2
        have e1 : nI j = kr_fm A ld 16 (nI k) := by rw [← hf, kr_fm_no hng]
        have e2 : nI o = nI (kr_sp A ld 16 (nI k)) := by rw [← hs, kr_sp_no hng, Nat.zero_add]
        refine lv_iconst (v := 2) hx hb dX1_form_47 (by decide) ?_
        refine kr_newF (BB := fun _ => True) hx hb hts hK hP hD (fun _ _ => trivial) hS 2 (by decide) (by decide) (by decide) (Nat.le_of_ble_eq_true rfl) (Nat.le_of_ble_eq_true rfl) dX1_form_48 (fun q9 H1 hq9 hP hD hS => ?_)
        have hP := kr_Pr hP
        have hD := kr_Dr hD
        refine lv_dup hx hb dX1_form_50 rfl ?_
        refine lv_iconst (v := 0) hx hb dX1_form_51 (by decide) ?_
        refine lv_iload_n hx hb dX1_form_52 rfl (lv_at hl 1 rfl) ?_
        refine kr_astF (tys := [(cz, .array .int)]) hx hb hK hP hD hS (hA q9 hq9) 0 rfl 0 (by decide) (by decide) dX1_form_53 (fun H1 locs hP hD hS => ?_)
        have hP : va_P D vwCl [(q9, .inl (cy, 2, .inl (upd (fun _ => 0) 0 (nI j))))] H1 := hP
        have hD : va_D (fun _ => True) [(q9, .inl (cy, 2, .inl (upd (fun _ => 0) 0 (nI j))))] := hD
        refine lv_dup hx hb dX1_form_54 rfl ?_
        refine lv_iconst (v := 1) hx hb dX1_form_55 (by decide) ?_
        refine lv_iload hx hb dX1_form_56 (lv_at hl 0 rfl) ?_
        refine kr_astF (tys := [(cz, .array .int)]) hx hb hK hP hD hS (hA q9 hq9) 0 rfl 1 (by decide) (by decide) dX1_form_58 (fun H1 locs hP hD hS => ?_)
        have hP : va_P D vwCl [(q9, .inl (cy, 2, .inl (upd (upd (fun _ => 0) 0 (nI j)) 1 (nI o))))] H1 := hP
        have hD : va_D (fun _ => True) [(q9, .inl (cy, 2, .inl (upd (upd (fun _ => 0) 0 (nI j)) 1 (nI o))))] := hD
        have hP : va_P D vwCl [(q9, .inl (cy, 2, .inl (fun j => if j = 0 then kr_fm A ld 16 (nI k) else nI (kr_sp A ld 16 (nI k)))))] H1 := kr_pm.mpr (fun x hx9 => by
          rw [List.mem_singleton.mp hx9]
          refine kr_cgI (kr_pm.mp hP _ (List.mem_singleton.mpr rfl)) (fun j hj => ?_)
          rcases (show j = 0 ∨ j = 1 by omega) with rfl | rfl
          · rw [pk_un (by decide), pk_us, if_pos rfl]; exact e1
          · rw [pk_us, if_neg (by decide)]; exact e2)
        exact kr_nR hx hb hr hlocks hS hP (hA q9 hq9) dX1_form_59
      · have hgo : kr_go A ld (nI j) := (kr_go_nI (by omega)).mpr ⟨h30, kr_nlt c29⟩
        refine lv_aload_n hx hb dX1_form_32 rfl (lv_at hl 2 rfl) ?_
        refine va_get (ci := 1) (v := .ref (ad 0 0)) (C := RX1) (T := TX1) (N := 3) hx hb hts kr_wsX1 hown hK hP 0 rfl rfl 0 (by decide) (hts _ kq_511) (fun _ h9 => h9) rfl dX1_form_33 ?_
        refine lv_iload_n hx hb dX1_form_36 rfl (lv_at hl 1 rfl) ?_
        refine kr_rdO hx hb hK hP 0 N rfl j (by omega) (by omega) dX1_form_37 ?_
        refine lv_iconst (v := 4) hx hb dX1_form_38 (by decide) ?_
        refine kr_rdK hx hb hK hP (k := j) (by omega) 4 (by decide) dX1_form_39 ?_
        refine lv_istore_n (lv' := [(3, .int (A 4 j)), (4, .int (nI o)), (0, .ref g), (1, .int (nI k)), (2, .int ld)]) hx hb dX1_form_40 rfl hl (by decide) rfl (fun ls hl => ?_)
        refine lv_iinc (v := nI (o + 1)) (lv' := [(4, .int (nI (o + 1))), (3, .int (A 4 j)), (0, .ref g), (1, .int (nI k)), (2, .int ld)]) hx hb dX1_form_41 hl (k := 1) rfl (kr_inc _) (by decide) rfl (fun ls hl => ?_)
        refine lv_goto (tgt := 5) hx hb dX1_form_44 (by decide) ?_
        exact ih (A 4 j, o + 1) ls ⟨hw.kn hj, (kr_fm_16 hw hj hgo).symm.trans hf, by show kr_sp A ld 16 (A 4 j) + (o + 1) = _; rw [← hs, kr_sp_16 hw hj hgo]; omega⟩ (by show kr_mz (A 4 j) < kr_mz (nI j); exact kr_mz_lt hw hj) (lv_sub hl [0, 1, 2, 3, 4] rfl)
