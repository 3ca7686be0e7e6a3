/-! the catalogue by hand: what it answers -/
def kr_wo (A : Nat → Nat → Int32) (k : Nat) : Int32 := 1000 * A 1 k - 20 * A 2 k - nI k
theorem kr_woN {N L : Nat} {A : Nat → Nat → Int32} (hw : kr_wf N L A) (hx : kr_wx N L A) {k : Nat} (hk : k < N) : ∃ a b, 10 ≤ a ∧ a ≤ 100 ∧ 1 ≤ b ∧ b ≤ 9 ∧ A 1 k = nI a ∧ A 2 k = nI b ∧ kr_wo A k = nI (1000 * a - 20 * b - k) := by
  have h16 := hw.1
  obtain ⟨⟨a, a1, a2, a3⟩, ⟨b, b1, b2, b3⟩, -⟩ := hx.2.2.1 k hk
  refine ⟨a, b, a1, a2, b1, b2, a3, b3, ?_⟩
  unfold kr_wo
  rw [a3, b3, show (1000 : Int32) = nI 1000 from rfl, show (20 : Int32) = nI 20 from rfl, pk_mul, pk_mul, pk_sub (by omega), pk_sub (by omega)]
theorem kr_wo_ia {N L : Nat} {A : Nat → Nat → Int32} (hw : kr_wf N L A) (hx : kr_wx N L A) {i k : Nat} (hi : i < N) (hk : k < N) : kr_wo A i ≤ kr_wo A k ↔ ¬ kr_ia A i k := by
  have h16 := hw.1
  obtain ⟨a, b, a1, a2, b1, b2, a3, b3, e1⟩ := kr_woN hw hx hi
  obtain ⟨a', b', a1', a2', b1', b2', a3', b3', e2⟩ := kr_woN hw hx hk
  rw [e1, e2, nI_leI (by omega) (by omega), kr_ia_iff, a3, b3, a3', b3', nI_toInt (by omega), nI_toInt (by omega), nI_toInt (by omega), nI_toInt (by omega)]
  omega
set_option maxHeartbeats 4000000 in
set_option maxRecDepth 100000 in
theorem c_X1_worth (l : Launch) (D : va_G) (cy cz : ClassId) (g : Nat) (ad : Nat → Nat → Nat) (N L : Nat) (A : Nat → Nat → Int32) (k : Nat) (hN : N ≤ 16) (hk : k < N) : Met l yX1_worth (Cond.code yX1_worth cX1_worth 2 (some .int) :: kr_all) ({ frames := 0, cells := 0, slots := 0, locals := 0 }) (va_Pc [.ref g, .int (nI k)] (kr_S D (kr_SW cy cz g ad N L A) cy cz)) (vp_Si (fun r => r = kr_wo A k)) 0 0 (fun _ => False) := by
  refine kr_of (by decide) (Nat.le_of_ble_eq_true rfl) ?_
  intro p e s m below meth c ls hx hb hml hr hts hown hlocks hin hv hl
  obtain ⟨hP, hK⟩ := hv
  have hown : s.vm.findClass RX1 = some m.cls := hown
  have hl : lv_has ls 2 [(0, .ref g), (1, .int (nI k))] := hl
  refine lv_sipush (v := 1000) hx hb dX1_worth_0 (by decide) ?_
  refine lv_aload_n hx hb dX1_worth_3 rfl (lv_at hl 0 rfl) ?_
  refine va_get (ci := 1) (v := .ref (ad 0 0)) (C := RX1) (T := TX1) (N := 3) hx hb hts kr_wsX1 hown hK hP 0 rfl rfl 0 (by decide) (hts _ kq_511) (fun _ h9 => h9) rfl dX1_worth_4 ?_
  refine lv_iload_n hx hb dX1_worth_7 rfl (lv_at hl 1 rfl) ?_
  refine kr_rdO hx hb hK hP 0 N rfl k (by omega) (by omega) dX1_worth_8 ?_
  refine lv_iconst (v := 1) hx hb dX1_worth_9 (by decide) ?_
  refine kr_rdK hx hb hK hP (k := k) (by omega) 1 (by decide) dX1_worth_10 ?_
  refine lv_imul hx hb dX1_worth_11 ?_
  refine lv_bipush (v := 20) hx hb dX1_worth_12 (by decide) ?_
  refine lv_aload_n hx hb dX1_worth_14 rfl (lv_at hl 0 rfl) ?_
  refine va_get (ci := 1) (v := .ref (ad 0 0)) (C := RX1) (T := TX1) (N := 3) hx hb hts kr_wsX1 hown hK hP 0 rfl rfl 0 (by decide) (hts _ kq_511) (fun _ h9 => h9) rfl dX1_worth_15 ?_
  refine lv_iload_n hx hb dX1_worth_18 rfl (lv_at hl 1 rfl) ?_
  refine kr_rdO hx hb hK hP 0 N rfl k (by omega) (by omega) dX1_worth_19 ?_
  refine lv_iconst (v := 2) hx hb dX1_worth_20 (by decide) ?_
  refine kr_rdK hx hb hK hP (k := k) (by omega) 2 (by decide) dX1_worth_21 ?_
  refine lv_imul hx hb dX1_worth_22 ?_
  refine lv_isub hx hb dX1_worth_23 ?_
  refine lv_iload_n hx hb dX1_worth_24 rfl (lv_at hl 1 rfl) ?_
  refine lv_isub hx hb dX1_worth_25 ?_
  exact kr_eI hx hb hr hlocks rfl rfl dX1_worth_26
theorem kg_RX1_21 : GoodIn kr_all (wsV RX1 21 RX1 yX1_worth (Cond.code yX1_worth cX1_worth 2 (some .int) :: kr_all)) := kr_gV kq_432 kq_434 kq_22 kq_26 kq_436
set_option maxHeartbeats 4000000 in
set_option maxRecDepth 100000 in
theorem c_X1_rank (l : Launch) (D : va_G) (cy cz : ClassId) (g : Nat) (ad : Nat → Nat → Nat) (N L : Nat) (A : Nat → Nat → Int32) (k : Nat) (hw : kr_wf N L A) (hx0 : kr_wx N L A) (hk : k < N) : Met l yX1_rank (Cond.code yX1_rank cX1_rank 4 (some .int) :: kr_all) ({ frames := 1, cells := 0, slots := 0, locals := 21 }) (va_Pc [.ref g, .int (nI k)] (kr_S D (kr_SW cy cz g ad N L A) cy cz)) (vp_Si (fun r => r = nI (kr_rk A k N))) 0 0 (fun _ => False) := by
  refine kr_of (by decide) (Nat.le_of_ble_eq_true rfl) ?_
  intro p e s m below meth c ls hx hb hml hr hts hown hlocks hin hv hl
  obtain ⟨hP, hK⟩ := hv
  have hown : s.vm.findClass RX1 = some m.cls := hown
  have hl : lv_has ls 4 [(0, .ref g), (1, .int (nI k))] := hl
  have hN := hw.1
  refine lv_iconst (v := 0) hx hb dX1_rank_0 (by decide) ?_
  refine lv_istore_n (lv' := [(2, .int 0), (0, .ref g), (1, .int (nI k))]) hx hb dX1_rank_1 rfl hl (by decide) rfl (fun ls hl => ?_)
  refine lv_iconst (v := 0) hx hb dX1_rank_2 (by decide) ?_
  refine lv_istore_n (lv' := [(3, .int 0), (2, .int 0), (0, .ref g), (1, .int (nI k))]) hx hb dX1_rank_3 rfl hl (by decide) rfl (fun ls hl => ?_)
  refine kr_lp (nL := 4) (fun z : Nat × Nat => [(3, .int (nI z.1)), (2, .int (nI z.2)), (0, .ref g), (1, .int (nI k))]) (fun z => z.1 ≤ N ∧ z.2 = kr_rk A k z.1) (fun z => N - z.1) ?_ (0, 0) ⟨by omega, rfl⟩ (lv_sub hl [0, 1, 2, 3] rfl)
  clear hl
  intro z ls hI hl ih
  obtain ⟨i, q⟩ := z
  have hl : lv_has ls 4 [(3, .int (nI i)), (2, .int (nI q)), (0, .ref g), (1, .int (nI k))] := hl
  obtain ⟨hi0, hg⟩ : i ≤ N ∧ q = kr_rk A k i := hI
  refine lv_iload_n hx hb dX1_rank_4 rfl (lv_at hl 0 rfl) ?_
  refine lv_aload_n hx hb dX1_rank_5 rfl (lv_at hl 2 rfl) ?_
  refine va_get (ci := 1) (v := .ref (ad 0 0)) (C := RX1) (T := TX1) (N := 3) hx hb hts kr_wsX1 hown hK hP 0 rfl rfl 0 (by decide) (hts _ kq_511) (fun _ h9 => h9) rfl dX1_rank_6 ?_
  refine kr_lnO hx hb hK hP 0 N rfl dX1_rank_9 ?_
  refine lv_icmp_ge (tgt := 59) hx hb dX1_rank_10 (by decide) (fun c10 => ?_) (fun c10 => ?_)
  · have hi2 : i = N := by have := kr_ge (by omega) (by omega) c10; omega
    subst hi2
    subst hg
    refine lv_iload_n hx hb dX1_rank_59 rfl (lv_at hl 1 rfl) ?_
    exact kr_eI hx hb hr hlocks rfl rfl dX1_rank_60
  · have hi : i < N := kr_lt (by omega) (by omega) c10
    refine lv_iload_n hx hb dX1_rank_13 rfl (lv_at hl 1 rfl) ?_
    refine lv_aload_n hx hb dX1_rank_14 rfl (lv_at hl 2 rfl) ?_
    refine va_get (ci := 1) (v := .ref (ad 0 0)) (C := RX1) (T := TX1) (N := 3) hx hb hts kr_wsX1 hown hK hP 0 rfl rfl 0 (by decide) (hts _ kq_511) (fun _ h9 => h9) rfl dX1_rank_15 ?_
    refine lv_iload_n hx hb dX1_rank_18 rfl (lv_at hl 0 rfl) ?_
    refine kr_rdO hx hb hK hP 0 N rfl i (by omega) (by omega) dX1_rank_19 ?_
    refine lv_iconst (v := 0) hx hb dX1_rank_20 (by decide) ?_
    refine kr_rdK hx hb hK hP (k := i) (by omega) 0 (by decide) dX1_rank_21 ?_
    refine lv_aload_n hx hb dX1_rank_22 rfl (lv_at hl 2 rfl) ?_
    refine va_get (ci := 1) (v := .ref (ad 0 0)) (C := RX1) (T := TX1) (N := 3) hx hb hts kr_wsX1 hown hK hP 0 rfl rfl 0 (by decide) (hts _ kq_511) (fun _ h9 => h9) rfl dX1_rank_23 ?_
    refine lv_iload_n hx hb dX1_rank_26 rfl (lv_at hl 3 rfl) ?_
    refine kr_rdO hx hb hK hP 0 N rfl k (by omega) (by omega) dX1_rank_27 ?_
    refine lv_iconst (v := 0) hx hb dX1_rank_28 (by decide) ?_
    refine kr_rdK hx hb hK hP (k := k) (by omega) 0 (by decide) dX1_rank_29 ?_
    refine lv_icmp_ne (tgt := 50) hx hb dX1_rank_30 (by decide) (fun c30 => ?_) (fun c30 => ?_)
    · refine lv_iconst (v := 0) hx hb dX1_rank_50 (by decide) ?_
      refine kr_iaddN hx hb q 0 dX1_rank_51 ?_
      refine lv_istore_n (lv' := [(2, .int (nI (q + 0))), (3, .int (nI i)), (0, .ref g), (1, .int (nI k))]) hx hb dX1_rank_52 rfl hl (by decide) rfl (fun ls hl => ?_)
      refine lv_iinc (v := nI (i + 1)) (lv' := [(3, .int (nI (i + 1))), (2, .int (nI (q + 0))), (0, .ref g), (1, .int (nI k))]) hx hb dX1_rank_53 hl (k := 1) rfl (kr_inc _) (by decide) rfl (fun ls hl => ?_)
      refine lv_goto (tgt := 4) hx hb dX1_rank_56 (by decide) ?_
      exact ih (i + 1, q) ls ⟨by omega, by rw [hg, kr_rk_s, if_neg (fun z => c30 z.1)]; rfl⟩ (by show N - (i + 1) < N - i; omega) (lv_sub hl [0, 1, 2, 3] rfl)
    · refine lv_aload_n hx hb dX1_rank_33 rfl (lv_at hl 2 rfl) ?_
      refine lv_iload_n hx hb dX1_rank_34 rfl (lv_at hl 0 rfl) ?_
      refine kr_vI (n := 1) (As := [.int (nI i)]) (rest := [.int (nI q)]) ⟨hx, hb, hml, hown, hts⟩ (c_X1_worth l D cy cz g ad N L A i (by omega) (by omega)) kg_RX1_21 ⟨rfl, rfl⟩ (by decide +kernel) ⟨Nat.le_of_ble_eq_true rfl, Nat.le_of_ble_eq_true rfl⟩ (kr_pvs hP hK) rfl hl.1 rfl (Nat.le_of_ble_eq_true rfl) dX1_rank_35 ⟨Nat.zero_le _, Nat.zero_le _⟩ (fun r9 e9 => ?_)
      subst e9
      refine lv_aload_n hx hb dX1_rank_38 rfl (lv_at hl 2 rfl) ?_
      refine lv_iload_n hx hb dX1_rank_39 rfl (lv_at hl 3 rfl) ?_
      refine kr_vI (n := 1) (As := [.int (nI k)]) (rest := [.int (kr_wo A i), .int (nI q)]) ⟨hx, hb, hml, hown, hts⟩ (c_X1_worth l D cy cz g ad N L A k (by omega) (by omega)) kg_RX1_21 ⟨rfl, rfl⟩ (by decide +kernel) ⟨Nat.le_of_ble_eq_true rfl, Nat.le_of_ble_eq_true rfl⟩ (kr_pvs hP hK) rfl hl.1 rfl (Nat.le_of_ble_eq_true rfl) dX1_rank_40 ⟨Nat.zero_le _, Nat.zero_le _⟩ (fun r9 e9 => ?_)
      subst e9
      refine lv_icmp_le (tgt := 50) hx hb dX1_rank_43 (by decide) (fun c43 => ?_) (fun c43 => ?_)
      · refine lv_iconst (v := 0) hx hb dX1_rank_50 (by decide) ?_
        refine kr_iaddN hx hb q 0 dX1_rank_51 ?_
        refine lv_istore_n (lv' := [(2, .int (nI (q + 0))), (3, .int (nI i)), (0, .ref g), (1, .int (nI k))]) hx hb dX1_rank_52 rfl hl (by decide) rfl (fun ls hl => ?_)
        refine lv_iinc (v := nI (i + 1)) (lv' := [(3, .int (nI (i + 1))), (2, .int (nI (q + 0))), (0, .ref g), (1, .int (nI k))]) hx hb dX1_rank_53 hl (k := 1) rfl (kr_inc _) (by decide) rfl (fun ls hl => ?_)
        refine lv_goto (tgt := 4) hx hb dX1_rank_56 (by decide) ?_
        exact ih (i + 1, q) ls ⟨by omega, by rw [hg, kr_rk_s, if_neg (fun z => (kr_wo_ia hw hx0 hi hk).mp c43 z.2)]; rfl⟩ (by show N - (i + 1) < N - i; omega) (lv_sub hl [0, 1, 2, 3] rfl)
      · refine lv_iconst (v := 1) hx hb dX1_rank_46 (by decide) ?_
        refine lv_goto (tgt := 51) hx hb dX1_rank_47 (by decide) ?_
        refine kr_iaddN hx hb q 1 dX1_rank_51 ?_
        refine lv_istore_n (lv' := [(2, .int (nI (q + 1))), (3, .int (nI i)), (0, .ref g), (1, .int (nI k))]) hx hb dX1_rank_52 rfl hl (by decide) rfl (fun ls hl => ?_)
        refine lv_iinc (v := nI (i + 1)) (lv' := [(3, .int (nI (i + 1))), (2, .int (nI (q + 1))), (0, .ref g), (1, .int (nI k))]) hx hb dX1_rank_53 hl (k := 1) rfl (kr_inc _) (by decide) rfl (fun ls hl => ?_)
        refine lv_goto (tgt := 4) hx hb dX1_rank_56 (by decide) ?_
        exact ih (i + 1, q + 1) ls ⟨by omega, by rw [hg, kr_rk_s, if_pos ⟨c30, Decidable.byContradiction (fun z => c43 ((kr_wo_ia hw hx0 hi hk).mpr z))⟩]⟩ (by show N - (i + 1) < N - i; omega) (lv_sub hl [0, 1, 2, 3] rfl)
set_option maxHeartbeats 4000000 in
set_option maxRecDepth 100000 in
theorem c_X1_strength (l : Launch) (D : va_G) (cy cz : ClassId) (g : Nat) (ad : Nat → Nat → Nat) (N L : Nat) (A : Nat → Nat → Int32) (q pl k : Nat) (hw : kr_wf N L A) (hq : q < L) (hp : pl < kr_rc A q) (hk : k < N) : Met l yX1_strength (Cond.code yX1_strength cX1_strength 5 (some .int) :: kr_all) ({ frames := 0, cells := 0, slots := 0, locals := 0 }) (va_Pc [.ref g, .int (nI q), .int (nI pl), .int (nI k)] (kr_S D (kr_SW cy cz g ad N L A) cy cz)) (vp_Si (fun r => r = kr_st A q pl (nI k))) 0 0 (fun _ => False) := by
  refine kr_of (by decide) (Nat.le_of_ble_eq_true rfl) ?_
  intro p e s m below meth c ls hx hb hml hr hts hown hlocks hin hv hl
  obtain ⟨hP, hK⟩ := hv
  have hown : s.vm.findClass RX1 = some m.cls := hown
  have hl : lv_has ls 5 [(0, .ref g), (1, .int (nI q)), (2, .int (nI pl)), (3, .int (nI k))] := hl
  have hN := hw.1
  have hL := hw.2.1
  have hrc := (hw.rc hq).1
  refine lv_iload_n hx hb dX1_strength_0 rfl (lv_at hl 2 rfl) ?_
  refine lv_if_le (tgt := 38) hx hb dX1_strength_1 (by decide) (fun c1 => ?_) (fun c1 => ?_)
  · have hp0 : pl = 0 := by have := kr_ge (a := 0) (b := pl) (by decide) (by omega) c1; omega
    refine lv_aload_n hx hb dX1_strength_38 rfl (lv_at hl 0 rfl) ?_
    refine va_get (ci := 1) (v := .ref (ad 0 1)) (C := RX1) (T := TX1) (N := 3) hx hb hts kr_wsX1 hown hK hP 0 rfl rfl 1 (by decide) (hts _ kq_513) (fun _ h9 => h9) rfl dX1_strength_39 ?_
    refine lv_iload_n hx hb dX1_strength_42 rfl (lv_at hl 1 rfl) ?_
    refine kr_rdO hx hb hK hP 1 L rfl q (by omega) (by omega) dX1_strength_43 ?_
    refine lv_iload_n hx hb dX1_strength_44 rfl (lv_at hl 2 rfl) ?_
    refine kr_rdR hx hb hK hP (q := q) (by omega) pl (by omega) (by omega) dX1_strength_45 ?_
    refine lv_istore (lv' := [(4, .int (A 7 (5 * q + pl))), (0, .ref g), (1, .int (nI q)), (2, .int (nI pl)), (3, .int (nI k))]) hx hb dX1_strength_46 hl (by decide) rfl (fun ls hl => ?_)
    refine lv_iload hx hb dX1_strength_48 (lv_at hl 0 rfl) ?_
    refine lv_aload_n hx hb dX1_strength_50 rfl (lv_at hl 1 rfl) ?_
    refine va_get (ci := 1) (v := .ref (ad 0 0)) (C := RX1) (T := TX1) (N := 3) hx hb hts kr_wsX1 hown hK hP 0 rfl rfl 0 (by decide) (hts _ kq_511) (fun _ h9 => h9) rfl dX1_strength_51 ?_
    refine lv_iload_n hx hb dX1_strength_54 rfl (lv_at hl 4 rfl) ?_
    refine kr_rdO hx hb hK hP 0 N rfl k (by omega) (by omega) dX1_strength_55 ?_
    refine lv_iconst (v := 1) hx hb dX1_strength_56 (by decide) ?_
    refine kr_rdK hx hb hK hP (k := k) (by omega) 1 (by decide) dX1_strength_57 ?_
    refine lv_imul hx hb dX1_strength_58 ?_
    refine lv_bipush (v := 100) hx hb dX1_strength_59 (by decide) ?_
    refine lv_idiv hx hb dX1_strength_61 (by decide) ?_
    exact kr_eI hx hb hr hlocks rfl (by rw [kr_st_0 hp0 (by omega)]) dX1_strength_62
  · have hp0 : 0 < pl := kr_lt (a := 0) (by decide) (by omega) c1
    refine lv_aload_n hx hb dX1_strength_4 rfl (lv_at hl 0 rfl) ?_
    refine va_get (ci := 1) (v := .ref (ad 0 1)) (C := RX1) (T := TX1) (N := 3) hx hb hts kr_wsX1 hown hK hP 0 rfl rfl 1 (by decide) (hts _ kq_513) (fun _ h9 => h9) rfl dX1_strength_5 ?_
    refine lv_iload_n hx hb dX1_strength_8 rfl (lv_at hl 1 rfl) ?_
    refine kr_rdO hx hb hK hP 1 L rfl q (by omega) (by omega) dX1_strength_9 ?_
    refine lv_iload_n hx hb dX1_strength_10 rfl (lv_at hl 2 rfl) ?_
    refine lv_iconst (v := 1) hx hb dX1_strength_11 (by decide) ?_
    refine kr_isubN hx hb pl 1 (by omega) dX1_strength_12 ?_
    refine kr_rdR hx hb hK hP (q := q) (by omega) (pl - 1) (by omega) (by omega) dX1_strength_13 ?_
    refine lv_aload_n hx hb dX1_strength_14 rfl (lv_at hl 0 rfl) ?_
    refine va_get (ci := 1) (v := .ref (ad 0 1)) (C := RX1) (T := TX1) (N := 3) hx hb hts kr_wsX1 hown hK hP 0 rfl rfl 1 (by decide) (hts _ kq_513) (fun _ h9 => h9) rfl dX1_strength_15 ?_
    refine lv_iload_n hx hb dX1_strength_18 rfl (lv_at hl 1 rfl) ?_
    refine kr_rdO hx hb hK hP 1 L rfl q (by omega) (by omega) dX1_strength_19 ?_
    refine lv_iload_n hx hb dX1_strength_20 rfl (lv_at hl 2 rfl) ?_
    refine kr_rdR hx hb hK hP (q := q) (by omega) pl (by omega) (by omega) dX1_strength_21 ?_
    refine lv_icmp_ge (tgt := 38) hx hb dX1_strength_22 (by decide) (fun c22 => ?_) (fun c22 => ?_)
    · refine lv_aload_n hx hb dX1_strength_38 rfl (lv_at hl 0 rfl) ?_
      refine va_get (ci := 1) (v := .ref (ad 0 1)) (C := RX1) (T := TX1) (N := 3) hx hb hts kr_wsX1 hown hK hP 0 rfl rfl 1 (by decide) (hts _ kq_513) (fun _ h9 => h9) rfl dX1_strength_39 ?_
      refine lv_iload_n hx hb dX1_strength_42 rfl (lv_at hl 1 rfl) ?_
      refine kr_rdO hx hb hK hP 1 L rfl q (by omega) (by omega) dX1_strength_43 ?_
      refine lv_iload_n hx hb dX1_strength_44 rfl (lv_at hl 2 rfl) ?_
      refine kr_rdR hx hb hK hP (q := q) (by omega) pl (by omega) (by omega) dX1_strength_45 ?_
      refine lv_istore (lv' := [(4, .int (A 7 (5 * q + pl))), (0, .ref g), (1, .int (nI q)), (2, .int (nI pl)), (3, .int (nI k))]) hx hb dX1_strength_46 hl (by decide) rfl (fun ls hl => ?_)
      refine lv_iload hx hb dX1_strength_48 (lv_at hl 0 rfl) ?_
      refine lv_aload_n hx hb dX1_strength_50 rfl (lv_at hl 1 rfl) ?_
      refine va_get (ci := 1) (v := .ref (ad 0 0)) (C := RX1) (T := TX1) (N := 3) hx hb hts kr_wsX1 hown hK hP 0 rfl rfl 0 (by decide) (hts _ kq_511) (fun _ h9 => h9) rfl dX1_strength_51 ?_
      refine lv_iload_n hx hb dX1_strength_54 rfl (lv_at hl 4 rfl) ?_
      refine kr_rdO hx hb hK hP 0 N rfl k (by omega) (by omega) dX1_strength_55 ?_
      refine lv_iconst (v := 1) hx hb dX1_strength_56 (by decide) ?_
      refine kr_rdK hx hb hK hP (k := k) (by omega) 1 (by decide) dX1_strength_57 ?_
      refine lv_imul hx hb dX1_strength_58 ?_
      refine lv_bipush (v := 100) hx hb dX1_strength_59 (by decide) ?_
      refine lv_idiv hx hb dX1_strength_61 (by decide) ?_
      exact kr_eI hx hb hr hlocks rfl (by rw [kr_st_s (by omega) (by omega)]; unfold kr_mn; rw [show 5 * q + pl - 1 = 5 * q + (pl - 1) by omega, if_neg (kr_ngt2 c22)]) dX1_strength_62
    · refine lv_aload_n hx hb dX1_strength_25 rfl (lv_at hl 0 rfl) ?_
      refine va_get (ci := 1) (v := .ref (ad 0 1)) (C := RX1) (T := TX1) (N := 3) hx hb hts kr_wsX1 hown hK hP 0 rfl rfl 1 (by decide) (hts _ kq_513) (fun _ h9 => h9) rfl dX1_strength_26 ?_
      refine lv_iload_n hx hb dX1_strength_29 rfl (lv_at hl 1 rfl) ?_
      refine kr_rdO hx hb hK hP 1 L rfl q (by omega) (by omega) dX1_strength_30 ?_
      refine lv_iload_n hx hb dX1_strength_31 rfl (lv_at hl 2 rfl) ?_
      refine lv_iconst (v := 1) hx hb dX1_strength_32 (by decide) ?_
      refine kr_isubN hx hb pl 1 (by omega) dX1_strength_33 ?_
      refine kr_rdR hx hb hK hP (q := q) (by omega) (pl - 1) (by omega) (by omega) dX1_strength_34 ?_
      refine lv_goto (tgt := 46) hx hb dX1_strength_35 (by decide) ?_
      refine lv_istore (lv' := [(4, .int (A 7 (5 * q + (pl - 1)))), (0, .ref g), (1, .int (nI q)), (2, .int (nI pl)), (3, .int (nI k))]) hx hb dX1_strength_46 hl (by decide) rfl (fun ls hl => ?_)
      refine lv_iload hx hb dX1_strength_48 (lv_at hl 0 rfl) ?_
      refine lv_aload_n hx hb dX1_strength_50 rfl (lv_at hl 1 rfl) ?_
      refine va_get (ci := 1) (v := .ref (ad 0 0)) (C := RX1) (T := TX1) (N := 3) hx hb hts kr_wsX1 hown hK hP 0 rfl rfl 0 (by decide) (hts _ kq_511) (fun _ h9 => h9) rfl dX1_strength_51 ?_
      refine lv_iload_n hx hb dX1_strength_54 rfl (lv_at hl 4 rfl) ?_
      refine kr_rdO hx hb hK hP 0 N rfl k (by omega) (by omega) dX1_strength_55 ?_
      refine lv_iconst (v := 1) hx hb dX1_strength_56 (by decide) ?_
      refine kr_rdK hx hb hK hP (k := k) (by omega) 1 (by decide) dX1_strength_57 ?_
      refine lv_imul hx hb dX1_strength_58 ?_
      refine lv_bipush (v := 100) hx hb dX1_strength_59 (by decide) ?_
      refine lv_idiv hx hb dX1_strength_61 (by decide) ?_
      exact kr_eI hx hb hr hlocks rfl (by rw [kr_st_s (by omega) (by omega)]; unfold kr_mn; rw [show 5 * q + pl - 1 = 5 * q + (pl - 1) by omega, if_pos (kr_nle2 c22)]) dX1_strength_62
