theorem kr_pB_s {A : Nat → Nat → Int32} {q i : Nat} {ld : Int32} : kr_up (kr_pB A q ld i) 6 (upd (kr_pB A q ld i 6) (5 * q + i) (kr_fm A ld 16 (A 6 (5 * q + i)))) = kr_pB A q ld (i + 1) := by
  have e : kr_pB A q ld i 6 = kr_pf A q ld i := rfl
  rw [e, kr_pf_s]
  unfold kr_pB
  rw [kr_up_tw]
theorem kgs_RX1_37 : GoodIn kr_all (va_wsS RX1 37 yX1_first (Cond.code yX1_first cX1_first 4 (some (.array .int)) :: kr_all)) := kr_gS2 kq_415 kq_416 kq_26 kq_417
theorem kg_RX1_33 : GoodIn kr_all (wsV RX1 33 RX1 yX1_gives (Cond.code yX1_gives cX1_gives 5 (some .int) :: kr_all)) := kr_gV kq_403 kq_404 kq_405 kq_26 kq_406
set_option maxHeartbeats 4000000 in
set_option maxRecDepth 100000 in
theorem c_X1_pull (l : Launch) (D : va_G) (cy cz : ClassId) (g : Nat) (ad : Nat → Nat → Nat) (N L : Nat) (A : Nat → Nat → Int32) (sz : Nat) (q : Nat) (ld : Int32) (hw : kr_wf N L A) (hx0 : kr_wx N L A) (hq : q < L) : Met l yX1_pull (Cond.code yX1_pull cX1_pull 5 none :: kr_all) ({ frames := 2, cells := 12, slots := 30, locals := 48 }) (va_Pc [.ref g, .int (nI q), .int ld] (kr_Sw D (kr_SW cy cz g ad N L A) cy cz sz)) (va_Qv (fun (_ : Nat → Nat → Nat) => True) (fun ad' t => va_P D vwCl (kr_SW cy cz g ad' N L (kr_pA A q ld)) t.heap ∧ va_D (va_A (kr_SW cy cz g ad N L A) sz) (kr_SW cy cz g ad' N L (kr_pA A q ld))) (va_A (kr_SW cy cz g ad N L A) sz)) 12 30 (va_A (kr_SW cy cz g ad N L A) sz) := by
  refine kr_ofS (Qc := fun AA => va_Qv (fun (_ : Nat → Nat → Nat) => True) (fun ad' t => va_P D vwCl (kr_SW cy cz g ad' N L (kr_pA A q ld)) t.heap ∧ va_D AA (kr_SW cy cz g ad' N L (kr_pA A q ld))) AA) (by decide) (Nat.le_of_ble_eq_true rfl) ?_
  intro p e s m below meth c ls AA hx hb hml hr hts hown hlocks hA hP hK hD hZ hS hl
  have hown : s.vm.findClass RX1 = some m.cls := hown
  have hl : lv_has ls 5 [(0, .ref g), (1, .int (nI q)), (2, .int ld)] := hl
  have hN := hw.1
  have hL := hw.2.1
  obtain ⟨hrc, er⟩ := hw.rc hq
  have hpr := kr_pr_le (ld := ld) hrc
  refine kr_cutT (pcJ := 43) (stJ := []) (fun (ad' : Nat → Nat → Nat) H locs ls => va_P D vwCl (kr_SW cy cz g ad' N L (kr_pB A q ld 0)) H ∧ va_D AA (kr_SW cy cz g ad' N L (kr_pB A q ld 0)) ∧ va_S AA s.heap H locs ∧ lv_has ls 5 [(0, .ref g), (1, .int (nI q)), (2, .int ld)]) 7 20 ?_ (fun key => ?_)
  · clear hP hD hS hl
    rintro ad H locs ls ⟨hP, hD, hS, hl⟩
    refine lv_iconst (v := 0) hx hb dX1_pull_43 (by decide) ?_
    refine lv_istore (lv' := [(4, .int 0), (0, .ref g), (1, .int (nI q)), (2, .int ld)]) hx hb dX1_pull_44 hl (by decide) rfl (fun ls hl => ?_)
    refine kr_lpC (nL := 5) (fun z : Nat => [(4, .int (nI z)), (0, .ref g), (1, .int (nI q)), (2, .int ld)]) (fun z H locs => (z ≤ kr_pr' A q ld) ∧ va_P D vwCl (kr_SW cy cz g ad N L (kr_pB A q ld z)) H ∧ va_D AA (kr_SW cy cz g ad N L (kr_pB A q ld z)) ∧ va_S AA s.heap H locs) (fun z => kr_pr' A q ld - z) (fun z => 7 + z) (fun z => 20 + 2 * z) ?_ (0) ⟨by omega, hP, hD, hS⟩ (lv_sub hl [0, 1, 2, 3] rfl)
    clear hl hP hS hD
    intro z H locs ls hI hl ih
    obtain ⟨i, rfl⟩ : ∃ y, y = z := ⟨_, rfl⟩
    have hl : lv_has ls 5 [(4, .int (nI i)), (0, .ref g), (1, .int (nI q)), (2, .int ld)] := hl
    obtain ⟨hi1, hP, hD, hS⟩ : (i ≤ kr_pr' A q ld) ∧ va_P D vwCl (kr_SW cy cz g ad N L (kr_pB A q ld i)) H ∧ va_D AA (kr_SW cy cz g ad N L (kr_pB A q ld i)) ∧ va_S AA s.heap H locs := hI
    show W p l e _ s m _ below meth c H locs (7 + i) (20 + 2 * i) _ (F0 m 46 ls [])
    have hrB : ∀ j, kr_rc (kr_pB A q ld i) j = if j = q then kr_pr' A q ld else kr_rc A j := fun j => kr_pB_rc hrc
    have hrq : kr_rc (kr_pB A q ld i) q = kr_pr' A q ld := by rw [hrB, if_pos rfl]
    refine lv_iload hx hb dX1_pull_46 (lv_at hl 0 rfl) ?_
    refine lv_aload_n hx hb dX1_pull_48 rfl (lv_at hl 1 rfl) ?_
    refine va_get (ci := 1) (v := .ref (ad 0 2)) (C := RX1) (T := TX1) (N := 3) hx hb hts kr_wsX1 hown hK hP 0 rfl rfl 2 (by decide) (hts _ kq_515) (fun _ h9 => h9) rfl dX1_pull_49 ?_
    refine lv_iload_n hx hb dX1_pull_52 rfl (lv_at hl 2 rfl) ?_
    refine kr_rdO hx hb hK hP 2 L rfl q (by omega) (by omega) dX1_pull_53 ?_
    refine kr_lnT hx hb hK hP (by omega) dX1_pull_54 ?_
    rw [hrq]
    refine lv_icmp_ge (tgt := 89) hx hb dX1_pull_55 (by decide) (fun c55 => ?_) (fun c55 => ?_)
    · have e1 : i = kr_pr' A q ld := by have := kr_ge (by omega) (by omega) c55; omega
      subst e1
      refine W.widen (k := 12) (n := 30) (by omega) (by omega) ?_
      exact kr_sV2 (V := Nat → Nat → Nat) (wq := fun ad' => kr_SW cy cz g ad' N L (kr_pA A q ld)) hx hb hr hlocks ad hP hD hS trivial dX1_pull_89
    · have hi2 : i < kr_pr' A q ld := kr_lt (by omega) (by omega) c55
      obtain ⟨k, hk, ek⟩ := hw.tk hq (show i < kr_rc A q by omega)
      have e6 : (kr_pB A q ld i) 6 (5 * q + i) = nI k := (kr_pf_at i).trans ek
      refine lv_aload_n hx hb dX1_pull_58 rfl (lv_at hl 1 rfl) ?_
      refine va_get (ci := 1) (v := .ref (ad 0 2)) (C := RX1) (T := TX1) (N := 3) hx hb hts kr_wsX1 hown hK hP 0 rfl rfl 2 (by decide) (hts _ kq_515) (fun _ h9 => h9) rfl dX1_pull_59 ?_
      refine lv_iload_n hx hb dX1_pull_62 rfl (lv_at hl 2 rfl) ?_
      refine kr_rdO hx hb hK hP 2 L rfl q (by omega) (by omega) dX1_pull_63 ?_
      refine lv_iload hx hb dX1_pull_64 (lv_at hl 0 rfl) ?_
      refine lv_aload_n hx hb dX1_pull_66 rfl (lv_at hl 1 rfl) ?_
      refine lv_aload_n hx hb dX1_pull_67 rfl (lv_at hl 1 rfl) ?_
      refine va_get (ci := 1) (v := .ref (ad 0 2)) (C := RX1) (T := TX1) (N := 3) hx hb hts kr_wsX1 hown hK hP 0 rfl rfl 2 (by decide) (hts _ kq_515) (fun _ h9 => h9) rfl dX1_pull_68 ?_
      refine lv_iload_n hx hb dX1_pull_71 rfl (lv_at hl 2 rfl) ?_
      refine kr_rdO hx hb hK hP 2 L rfl q (by omega) (by omega) dX1_pull_72 ?_
      refine lv_iload hx hb dX1_pull_73 (lv_at hl 0 rfl) ?_
      refine kr_rdT hx hb hK hP (q := q) (by omega) i (by rw [hrq]; exact hi2) (by rw [hrq]; omega) dX1_pull_75 ?_
      rw [e6]
      refine lv_iload_n hx hb dX1_pull_76 rfl (lv_at hl 3 rfl) ?_
      refine kr_vNR (n := 2) (mc := 1) (ms := 2) (BB := AA) (As := [.int (nI k), .int ld]) (rest := [.int (nI i), .ref (ad 3 q)]) ⟨hx, hb, hml, hown, hts⟩ (c_X1_form l D cy cz g ad N L (kr_pB A q ld i) _ k ld (kr_wf_p hw hq (by omega)) hk) kg_RX1_25 ⟨rfl, rfl⟩ (by decide +kernel) ⟨Nat.le_of_ble_eq_true rfl, Nat.le_of_ble_eq_true rfl⟩ (va_recv hK hP (ci := 1) (q0 := 0) rfl rfl) hP hK hD hA hZ hS hA rfl hl.1 rfl (Nat.le_of_ble_eq_true rfl) dX1_pull_77 ⟨show 7 + i + 1 ≤ 12 by omega, show 20 + 2 * i + 2 ≤ 30 by omega⟩ (fun q9 H1 locs1 hk9 hP hD1 hS => ?_)
      clear hk9 hD1
      refine lv_iconst (v := 0) hx hb dX1_pull_80 (by decide) ?_
      refine kr_ald hx hb hK hP ((kr_SW cy cz g ad N L (kr_pB A q ld i)).length + 0) 0 (kr_gr rfl) rfl 0 (by decide) (by decide) dX1_pull_81 ?_
      have hP := kr_Pl hP
      show W _ _ _ _ _ _ _ _ _ _ _ _ _ _ _ (F0 _ _ _ (.int (kr_fm (kr_pB A q ld i) ld 16 (nI k)) :: _))
      have efm : kr_fm (kr_pB A q ld i) ld 16 (nI k) = kr_fm A ld 16 (A 6 (5 * q + i)) := by rw [kr_fm_cg (A := A) (A' := kr_pB A q ld i) (show (kr_pB A q ld i) 3 = A 3 from rfl) (show (kr_pB A q ld i) 4 = A 4 from rfl), ek]
      rw [efm]
      refine kr_wrT (w := []) hx hb hK hP hD hS hq i (by rw [hrq]; exact hi2) (fun j hj => by rw [hrB]; have := (hw.rc hj).1; split <;> omega) dX1_pull_82 (fun H2 locs2 hP hD hS => ?_)
      rw [kr_pB_s] at hP hD
      have eSG : kr_SW cy cz g ad N L (kr_pB A q ld (i + 1)) = kr_SG cy cz g ad N L L (kr_pB A q ld (i + 1)) (kr_rc (kr_pB A q ld i)) (kr_rc (kr_pB A q ld i)) := kr_SGe (fun _ _ _ _ => rfl) (fun _ _ => ⟨rfl, fun _ _ => rfl⟩) (fun _ _ => ⟨rfl, fun _ _ => rfl⟩)
      have hP : va_P D vwCl (kr_SW cy cz g ad N L (kr_pB A q ld (i + 1))) H2 := by rw [eSG]; exact hP
      have hD : va_D AA (kr_SW cy cz g ad N L (kr_pB A q ld (i + 1))) := by rw [eSG]; exact hD
      refine lv_iinc (v := nI (i + 1)) (lv' := [(4, .int (nI (i + 1))), (0, .ref g), (1, .int (nI q)), (2, .int ld)]) hx hb dX1_pull_83 hl (k := 0) rfl (kr_inc _) (by decide) rfl (fun ls hl => ?_)
      refine lv_goto (tgt := 46) hx hb dX1_pull_86 (by decide) ?_
      refine W.widen (k := 7 + (i + 1)) (n := 20 + 2 * (i + 1)) (by omega) (by omega) ?_
      exact ih (i + 1) _ _ ls ⟨show i + 1 ≤ kr_pr' A q ld by omega, hP, hD, hS⟩ (by show kr_pr' A q ld - (i + 1) < kr_pr' A q ld - i; omega) (lv_sub hl [0, 1, 2, 3] rfl)
  · refine lv_aload_n hx hb dX1_pull_0 rfl (lv_at hl 0 rfl) ?_
    refine lv_iload_n hx hb dX1_pull_1 rfl (lv_at hl 1 rfl) ?_
    refine lv_iload_n hx hb dX1_pull_2 rfl (lv_at hl 2 rfl) ?_
    refine kr_vNI (n := 2) (mc := 5) (ms := 10) (BB := AA) (As := [.int (nI q), .int ld]) (rest := []) ⟨hx, hb, hml, hown, hts⟩ (c_X1_gives l D cy cz g ad N L A _ q ld hw (by omega)) kg_RX1_33 ⟨rfl, rfl⟩ (by decide +kernel) ⟨Nat.le_of_ble_eq_true rfl, Nat.le_of_ble_eq_true rfl⟩ (va_recv hK hP (ci := 1) (q0 := 0) rfl rfl) hP hK hD hZ hS hA rfl hl.1 rfl (Nat.le_of_ble_eq_true rfl) dX1_pull_3 ⟨Nat.le_of_ble_eq_true rfl, Nat.le_of_ble_eq_true rfl⟩ (fun r9 H1 locs e9 hk9 hP hS => ?_)
    clear hk9
    generalize H1 = H at hP hS ⊢
    subst e9
    refine lv_istore_n (lv' := [(3, .int (kr_gw A q ld)), (0, .ref g), (1, .int (nI q)), (2, .int ld)]) hx hb dX1_pull_6 rfl hl (by decide) rfl (fun ls hl => ?_)
    refine lv_iload_n hx hb dX1_pull_7 rfl (lv_at hl 0 rfl) ?_
    refine lv_if_lt (tgt := 43) hx hb dX1_pull_8 (by decide) (fun c8 => ?_) (fun c8 => ?_)
    · have hg : kr_gw A q ld = -1 := by rcases kr_gw_kn (ld := ld) hrc with e | ⟨gg, h1, e⟩; exact e; rw [e] at c8; exact absurd c8 (nI_pos (by omega))
      have hpv : kr_pr' A q ld = kr_rc A q := by unfold kr_pr'; rw [if_pos hg]
      have eSG : kr_SW cy cz g ad N L (kr_pB A q ld 0) = kr_SG cy cz g ad N L L A (kr_rc A) (kr_rc A) := kr_SGe (fun i _ j hj => kr_pB_5 hj) (fun i hi => ⟨by show kr_rc (kr_pB A q ld 0) i = kr_rc A i; rw [kr_pB_rc hrc]; split <;> first | (rename_i e; rw [e, hpv]) | rfl, fun j _ => rfl⟩) (fun i hi => ⟨by show kr_rc (kr_pB A q ld 0) i = kr_rc A i; rw [kr_pB_rc hrc]; split <;> first | (rename_i e; rw [e, hpv]) | rfl, fun j _ => by show kr_pf A q ld 0 _ = _; rw [kr_pf_0]⟩)
      have hP : va_P D vwCl (kr_SW cy cz g ad N L (kr_pB A q ld 0)) H := by rw [eSG]; exact hP
      have hD : va_D AA (kr_SW cy cz g ad N L (kr_pB A q ld 0)) := by rw [eSG]; exact hD
      refine W.widen (k := 7) (n := 20) (by decide) (by decide) ?_
      exact key ad H locs ls ⟨hP, hD, hS, lv_sub hl [1, 2, 3] rfl⟩
    · obtain ⟨gg, hgg, hg⟩ : ∃ gg, gg < kr_rc A q ∧ kr_gw A q ld = nI gg := by rcases kr_gw_kn (ld := ld) hrc with e | h'; rw [e] at c8; exact absurd (by decide) c8; exact h'
      have hpv : kr_pr' A q ld = gg := by unfold kr_pr'; rw [hg, if_neg (kr_kn_ne (by omega)), kr_ix_nI (by omega)]
      rw [hg] at hl
      refine lv_aload_n hx hb dX1_pull_11 rfl (lv_at hl 1 rfl) ?_
      refine va_get (ci := 1) (v := .ref (ad 0 1)) (C := RX1) (T := TX1) (N := 3) hx hb hts kr_wsX1 hown hK hP 0 rfl rfl 1 (by decide) (hts _ kq_513) (fun _ h9 => h9) rfl dX1_pull_12 ?_
      refine lv_iload_n hx hb dX1_pull_15 rfl (lv_at hl 2 rfl) ?_
      refine lv_aload_n hx hb dX1_pull_16 rfl (lv_at hl 1 rfl) ?_
      refine va_get (ci := 1) (v := .ref (ad 0 1)) (C := RX1) (T := TX1) (N := 3) hx hb hts kr_wsX1 hown hK hP 0 rfl rfl 1 (by decide) (hts _ kq_513) (fun _ h9 => h9) rfl dX1_pull_17 ?_
      refine lv_iload_n hx hb dX1_pull_20 rfl (lv_at hl 2 rfl) ?_
      refine kr_rdO hx hb hK hP 1 L rfl q (by omega) (by omega) dX1_pull_21 ?_
      refine lv_iload_n hx hb dX1_pull_22 rfl (lv_at hl 0 rfl) ?_
      refine kr_sNR (n := 2) (mc := 1) (ms := 5) (BB := AA) (As := [.ref (ad 2 q), .int (nI gg)]) (rest := [.int (nI q), .ref (ad 0 1)]) ⟨hx, hb, hml, hown, hts⟩ (c_X1_first l _ D cy cz _ (4 + N + q) (ad 2 q) (kr_rc A q) gg (fun j => if j < kr_rc A q then A 7 (5 * q + j) else 0) (kr_gR hq) (by omega) (by omega)) kgs_RX1_37 ⟨rfl, rfl⟩ (by decide +kernel) ⟨Nat.le_of_ble_eq_true rfl, Nat.le_of_ble_eq_true rfl⟩ hP hK hD hA hZ hS hA rfl hl.1 rfl (Nat.le_of_ble_eq_true rfl) dX1_pull_23 ⟨Nat.le_of_ble_eq_true rfl, Nat.le_of_ble_eq_true rfl⟩ (fun qR H1 locs1 hk9 hP hD hS => ?_)
      clear hk9
      refine kr_woR (w := []) hx hb hZ hK hP hD hS q hq (by omega) A (fun _ _ => rfl) (fun _ _ _ _ _ => rfl) (fun j hj => by rw [if_pos (show j < kr_rc A q by omega), if_pos (show j < kr_rc A q by omega)]) dX1_pull_26 (fun H2 locs2 hP hD hS => ?_)
      generalize H2 = H at hP hS ⊢
      generalize locs2 = locs at hS ⊢
      have hP : va_P D vwCl (kr_SG cy cz g (kr_ad ad 2 q qR) N L L A (va_up (kr_rc A) q gg) (kr_rc A)) H := hP
      have hD : va_D AA (kr_SG cy cz g (kr_ad ad 2 q qR) N L L A (va_up (kr_rc A) q gg) (kr_rc A)) := hD
      refine lv_aload_n hx hb dX1_pull_27 rfl (lv_at hl 1 rfl) ?_
      refine va_get (ci := 1) (v := .ref ((kr_ad ad 2 q qR) 0 2)) (C := RX1) (T := TX1) (N := 3) hx hb hts kr_wsX1 hown hK hP 0 rfl rfl 2 (by decide) (hts _ kq_515) (fun _ h9 => h9) rfl dX1_pull_28 ?_
      refine lv_iload_n hx hb dX1_pull_31 rfl (lv_at hl 2 rfl) ?_
      refine lv_aload_n hx hb dX1_pull_32 rfl (lv_at hl 1 rfl) ?_
      refine va_get (ci := 1) (v := .ref ((kr_ad ad 2 q qR) 0 2)) (C := RX1) (T := TX1) (N := 3) hx hb hts kr_wsX1 hown hK hP 0 rfl rfl 2 (by decide) (hts _ kq_515) (fun _ h9 => h9) rfl dX1_pull_33 ?_
      refine lv_iload_n hx hb dX1_pull_36 rfl (lv_at hl 2 rfl) ?_
      refine kr_rdO hx hb hK hP 2 L rfl q (by omega) (by omega) dX1_pull_37 ?_
      refine lv_iload_n hx hb dX1_pull_38 rfl (lv_at hl 0 rfl) ?_
      refine kr_sNR (n := 2) (mc := 1) (ms := 5) (BB := AA) (As := [.ref ((kr_ad ad 2 q qR) 3 q), .int (nI gg)]) (rest := [.int (nI q), .ref ((kr_ad ad 2 q qR) 0 2)]) ⟨hx, hb, hml, hown, hts⟩ (c_X1_first l _ D cy cz _ (4 + N + L + q) ((kr_ad ad 2 q qR) 3 q) (kr_rc A q) gg (fun j => if j < kr_rc A q then A 6 (5 * q + j) else 0) (kr_gT hq) (by omega) (by omega)) kgs_RX1_37 ⟨rfl, rfl⟩ (by decide +kernel) ⟨Nat.le_of_ble_eq_true rfl, Nat.le_of_ble_eq_true rfl⟩ hP hK hD hA hZ hS hA rfl hl.1 rfl (Nat.le_of_ble_eq_true rfl) dX1_pull_39 ⟨Nat.le_of_ble_eq_true rfl, Nat.le_of_ble_eq_true rfl⟩ (fun qT H1 locs1 hk9 hP hD hS => ?_)
      clear hk9
      refine kr_woT (w := []) hx hb hZ hK hP hD hS q hq (by omega) A (fun _ _ => rfl) (fun _ _ _ _ _ => rfl) (fun j hj => by rw [if_pos (show j < kr_rc A q by omega), if_pos (show j < kr_rc A q by omega)]) dX1_pull_42 (fun H2 locs2 hP hD hS => ?_)
      generalize H2 = H at hP hS ⊢
      generalize locs2 = locs at hS ⊢
      have hP : va_P D vwCl (kr_SG cy cz g (kr_ad (kr_ad ad 2 q qR) 3 q qT) N L L A (va_up (kr_rc A) q gg) (va_up (kr_rc A) q gg)) H := hP
      have hD : va_D AA (kr_SG cy cz g (kr_ad (kr_ad ad 2 q qR) 3 q qT) N L L A (va_up (kr_rc A) q gg) (va_up (kr_rc A) q gg)) := hD
      have eSG : kr_SW cy cz g (kr_ad (kr_ad ad 2 q qR) 3 q qT) N L (kr_pB A q ld 0) = kr_SG cy cz g (kr_ad (kr_ad ad 2 q qR) 3 q qT) N L L A (va_up (kr_rc A) q gg) (va_up (kr_rc A) q gg) := kr_SGe (fun i _ j hj => kr_pB_5 hj) (fun i hi => ⟨by show kr_rc (kr_pB A q ld 0) i = va_up (kr_rc A) q gg i; rw [kr_pB_rc hrc, hpv]; rfl, fun j _ => rfl⟩) (fun i hi => ⟨by show kr_rc (kr_pB A q ld 0) i = va_up (kr_rc A) q gg i; rw [kr_pB_rc hrc, hpv]; rfl, fun j _ => by show kr_pf A q ld 0 _ = _; rw [kr_pf_0]⟩)
      have hP : va_P D vwCl (kr_SW cy cz g (kr_ad (kr_ad ad 2 q qR) 3 q qT) N L (kr_pB A q ld 0)) H := by rw [eSG]; exact hP
      have hD : va_D AA (kr_SW cy cz g (kr_ad (kr_ad ad 2 q qR) 3 q qT) N L (kr_pB A q ld 0)) := by rw [eSG]; exact hD
      refine W.widen (k := 7) (n := 20) (by decide) (by decide) ?_
      exact key (kr_ad (kr_ad ad 2 q qR) 3 q qT) H locs ls ⟨hP, hD, hS, lv_sub hl [1, 2, 3] rfl⟩
