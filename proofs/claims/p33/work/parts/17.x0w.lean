set_option maxHeartbeats 4000000 in
set_option maxRecDepth 100000 in
theorem c_X0_appendRope (l : Launch) (D : va_G) (cy : ClassId) (h : Nat) (a : Nat → Nat) (N L : Nat) (A : Nat → Nat → Int32) (sz : Nat) (q r k : Nat) (z : Int32) (hq : q < 6) (hr5 : r < 5) (er : A 5 q = nI r) : Met l yX0_appendRope (Cond.code yX0_appendRope cX0_appendRope 5 none :: kr_all) ({ frames := 1, cells := 0, slots := 0, locals := 21 }) (va_Pc [.ref h, .int (nI q), .int (nI k), .int z] (kr_Rw D (kr_W0 cy h a N L A) cy sz)) (va_Qv (fun (_ : Unit) => True) (fun _ t => kr_Rq D (kr_W0 cy h a N L (kr_jA A q r k z)) cy (va_A (kr_W0 cy h a N L A) sz) t) (va_A (kr_W0 cy h a N L A) sz)) 0 0 (va_A (kr_W0 cy h a N L A) sz) := by
  refine kr_ofw (Qc := fun AA => va_Qv (fun (_ : Unit) => True) (fun _ t => kr_Rq D (kr_W0 cy h a N L (kr_jA A q r k z)) cy AA t) AA) (by decide) (Nat.le_of_ble_eq_true rfl) ?_
  intro p e s m below meth c ls AA hx hb hml hr hts hown hlocks hin hA hP hK hD hS hl
  have hown : s.vm.findClass RX0 = some m.cls := hown
  have hl : lv_has ls 5 [(0, .ref h), (1, .int (nI q)), (2, .int (nI k)), (3, .int z)] := hl
  refine lv_iload_n hx hb dX0_appendRope_0 rfl (lv_at hl 1 rfl) ?_
  refine lv_aload_n hx hb dX0_appendRope_1 rfl (lv_at hl 0 rfl) ?_
  refine va_get (ci := 0) (v := .ref (a 5)) (C := RX0) (T := TX0) (N := 10) hx hb hts kr_wsX0 hown hK hP 0 rfl rfl 6 (by decide) (hts _ kq_48) (fun _ h9 => h9) rfl dX0_appendRope_2 ?_
  refine lv_iload_n hx hb dX0_appendRope_5 rfl (lv_at hl 1 rfl) ?_
  refine kr_ald hx hb hK hP 6 0 rfl rfl q (by omega) (by decide) dX0_appendRope_6 ?_
  rw [er]
  refine kr_sI (n := 2) (As := [.int (nI q), .int (nI r)]) (rest := []) ⟨hx, hb, hml, hown, hts⟩ (c_X0_slot l q r) kg_RX0_97 ⟨rfl, rfl⟩ (by decide +kernel) ⟨Nat.le_of_ble_eq_true rfl, Nat.le_of_ble_eq_true rfl⟩ ⟨kr_blT, fun U hU hW => ⟨rfl, trivial⟩⟩ rfl hl.1 rfl (Nat.le_of_ble_eq_true rfl) dX0_appendRope_7 ⟨Nat.zero_le _, Nat.zero_le _⟩ (fun r9 e9 => ?_)
  subst e9
  refine lv_istore (lv' := [(4, .int (nI (5 * q + r))), (0, .ref h), (1, .int (nI q)), (2, .int (nI k)), (3, .int z)]) hx hb dX0_appendRope_10 hl (by decide) rfl (fun ls hl => ?_)
  refine lv_aload_n hx hb dX0_appendRope_12 rfl (lv_at hl 1 rfl) ?_
  refine va_get (ci := 0) (v := .ref (a 6)) (C := RX0) (T := TX0) (N := 10) hx hb hts kr_wsX0 hown hK hP 0 rfl rfl 8 (by decide) (hts _ kq_50) (fun _ h9 => h9) rfl dX0_appendRope_13 ?_
  refine lv_iload hx hb dX0_appendRope_16 (lv_at hl 0 rfl) ?_
  refine lv_iload_n hx hb dX0_appendRope_18 rfl (lv_at hl 3 rfl) ?_
  refine kr_ast hx hb hK hP hD hS 7 0 rfl rfl (5 * q + r) (by omega) (by decide) dX0_appendRope_19 (fun H locs hP hD hS => ?_)
  have hP : va_P D vwCl (kr_W0 cy h a N L (kr_up A 6 (upd (A 6) (5 * q + r) (nI k)))) H := hP
  have hD : va_D AA (kr_W0 cy h a N L (kr_up A 6 (upd (A 6) (5 * q + r) (nI k)))) := hD
  refine lv_aload_n hx hb dX0_appendRope_20 rfl (lv_at hl 1 rfl) ?_
  refine va_get (ci := 0) (v := .ref (a 7)) (C := RX0) (T := TX0) (N := 10) hx hb hts kr_wsX0 hown hK hP 0 rfl rfl 9 (by decide) (hts _ kq_51) (fun _ h9 => h9) rfl dX0_appendRope_21 ?_
  refine lv_iload hx hb dX0_appendRope_24 (lv_at hl 0 rfl) ?_
  refine lv_iload_n hx hb dX0_appendRope_26 rfl (lv_at hl 4 rfl) ?_
  refine kr_ast hx hb hK hP hD hS 8 0 rfl rfl (5 * q + r) (by omega) (by decide) dX0_appendRope_27 (fun H locs hP hD hS => ?_)
  have hP : va_P D vwCl (kr_W0 cy h a N L (kr_up (kr_up A 6 (upd (A 6) (5 * q + r) (nI k))) 7 (upd (A 7) (5 * q + r) z))) H := hP
  have hD : va_D AA (kr_W0 cy h a N L (kr_up (kr_up A 6 (upd (A 6) (5 * q + r) (nI k))) 7 (upd (A 7) (5 * q + r) z))) := hD
  refine lv_aload_n hx hb dX0_appendRope_28 rfl (lv_at hl 1 rfl) ?_
  refine va_get (ci := 0) (v := .ref (a 5)) (C := RX0) (T := TX0) (N := 10) hx hb hts kr_wsX0 hown hK hP 0 rfl rfl 6 (by decide) (hts _ kq_48) (fun _ h9 => h9) rfl dX0_appendRope_29 ?_
  refine lv_iload_n hx hb dX0_appendRope_32 rfl (lv_at hl 2 rfl) ?_
  refine lv_dup2_11 hx hb dX0_appendRope_33 rfl rfl ?_
  refine kr_ald hx hb hK hP 6 0 rfl rfl q (by omega) (by decide) dX0_appendRope_34 ?_
  show W _ _ _ _ _ _ _ _ _ _ _ _ _ _ _ (F0 _ _ _ (.int (A 5 q) :: _))
  rw [er]
  refine lv_iconst (v := 1) hx hb dX0_appendRope_35 (by decide) ?_
  refine kr_iaddN hx hb r 1 dX0_appendRope_36 ?_
  refine kr_ast hx hb hK hP hD hS 6 0 rfl rfl q (by omega) (by decide) dX0_appendRope_37 (fun H locs hP hD hS => ?_)
  have hP : va_P D vwCl (kr_W0 cy h a N L (kr_up (kr_up (kr_up A 6 (upd (A 6) (5 * q + r) (nI k))) 7 (upd (A 7) (5 * q + r) z)) 5 (upd (A 5) q (nI (r + 1))))) H := hP
  have hD : va_D AA (kr_W0 cy h a N L (kr_up (kr_up (kr_up A 6 (upd (A 6) (5 * q + r) (nI k))) 7 (upd (A 7) (5 * q + r) z)) 5 (upd (A 5) q (nI (r + 1))))) := hD
  exact kr_wV hx hb hr hlocks hP hK hD hS trivial dX0_appendRope_38
set_option maxHeartbeats 4000000 in
set_option maxRecDepth 100000 in
theorem c_X0_addKnot (l : Launch) (D : va_G) (cy : ClassId) (h : Nat) (a : Nat → Nat) (N L : Nat) (A : Nat → Nat → Int32) (sz : Nat) (x y z : Int32) (hx0 : x = 0 ∨ x = 1) (hy : ¬ y < 10 ∧ ¬ 100 < y) (hz : ¬ z < 1 ∧ ¬ 9 < z) (hN : N < 16) : Met l yX0_addKnot (Cond.code yX0_addKnot cX0_addKnot 5 (some .int) :: kr_all) ({ frames := 1, cells := 0, slots := 0, locals := 20 }) (va_Pc [.ref h, .int x, .int y, .int z] (kr_Rw D (kr_W0 cy h a N L A) cy sz)) (va_Qi (fun r (_ : Unit) => r = nI N) (fun _ t => kr_Rq D (kr_W0 cy h a (N + 1) L (kr_aA A N x y z)) cy (va_A (kr_W0 cy h a N L A) sz) t) (va_A (kr_W0 cy h a N L A) sz)) 0 0 (va_A (kr_W0 cy h a N L A) sz) := by
  refine kr_ofw (Qc := fun AA => va_Qi (fun r (_ : Unit) => r = nI N) (fun _ t => kr_Rq D (kr_W0 cy h a (N + 1) L (kr_aA A N x y z)) cy AA t) AA) (by decide) (Nat.le_of_ble_eq_true rfl) ?_
  intro p e s m below meth c ls AA hx hb hml hr hts hown hlocks hin hA hP hK hD hS hl
  have hown : s.vm.findClass RX0 = some m.cls := hown
  have hl : lv_has ls 5 [(0, .ref h), (1, .int x), (2, .int y), (3, .int z)] := hl
  refine lv_iload_n hx hb dX0_addKnot_0 rfl (lv_at hl 1 rfl) ?_
  refine kr_sV (n := 1) (As := [.int x]) (rest := []) ⟨hx, hb, hml, hown, hts⟩ (c_X0_checkKind l x (by assumption)) kg_RX0_41 ⟨rfl, rfl⟩ (by decide +kernel) ⟨Nat.le_of_ble_eq_true rfl, Nat.le_of_ble_eq_true rfl⟩ ⟨kr_blT, fun U hU hW => ⟨rfl, trivial⟩⟩ rfl hl.1 rfl (Nat.le_of_ble_eq_true rfl) dX0_addKnot_1 ⟨Nat.zero_le _, Nat.zero_le _⟩ ?_
  refine lv_iload_n hx hb dX0_addKnot_4 rfl (lv_at hl 2 rfl) ?_
  refine lv_bipush (v := 10) hx hb dX0_addKnot_5 (by decide) ?_
  refine lv_icmp_lt (tgt := 16) hx hb dX0_addKnot_7 (by decide) (fun c7 => absurd c7 hy.1) (fun c7 => ?_)
  refine lv_iload_n hx hb dX0_addKnot_10 rfl (lv_at hl 2 rfl) ?_
  refine lv_bipush (v := 100) hx hb dX0_addKnot_11 (by decide) ?_
  refine lv_icmp_le (tgt := 26) hx hb dX0_addKnot_13 (by decide) (fun c13 => ?_) (fun c13 => absurd (kr_nle2 c13) hy.2)
  refine lv_iload_n hx hb dX0_addKnot_26 rfl (lv_at hl 3 rfl) ?_
  refine lv_iconst (v := 1) hx hb dX0_addKnot_27 (by decide) ?_
  refine lv_icmp_lt (tgt := 37) hx hb dX0_addKnot_28 (by decide) (fun c28 => absurd c28 hz.1) (fun c28 => ?_)
  refine lv_iload_n hx hb dX0_addKnot_31 rfl (lv_at hl 3 rfl) ?_
  refine lv_bipush (v := 9) hx hb dX0_addKnot_32 (by decide) ?_
  refine lv_icmp_le (tgt := 47) hx hb dX0_addKnot_34 (by decide) (fun c34 => ?_) (fun c34 => absurd (kr_nle2 c34) hz.2)
  refine lv_aload_n hx hb dX0_addKnot_47 rfl (lv_at hl 0 rfl) ?_
  refine va_get (ci := 0) (v := .int (nI N)) (C := RX0) (T := TX0) (N := 10) hx hb hts kr_wsX0 hown hK hP 0 rfl rfl 5 (by decide) (hts _ kq_47) (fun _ h9 => h9) rfl dX0_addKnot_48 ?_
  refine lv_bipush (v := 16) hx hb dX0_addKnot_51 (by decide) ?_
  refine lv_icmp_lt (tgt := 66) hx hb dX0_addKnot_53 (by decide) (fun c53 => ?_) (fun c53 => absurd (nI_lt (b := 16) hN (by decide)) c53)
  refine lv_aload_n hx hb dX0_addKnot_66 rfl (lv_at hl 0 rfl) ?_
  refine va_get (ci := 0) (v := .int (nI N)) (C := RX0) (T := TX0) (N := 10) hx hb hts kr_wsX0 hown hK hP 0 rfl rfl 5 (by decide) (hts _ kq_47) (fun _ h9 => h9) rfl dX0_addKnot_67 ?_
  refine lv_istore (lv' := [(4, .int (nI N)), (0, .ref h), (1, .int x), (2, .int y), (3, .int z)]) hx hb dX0_addKnot_70 hl (by decide) rfl (fun ls hl => ?_)
  refine lv_aload_n hx hb dX0_addKnot_72 rfl (lv_at hl 1 rfl) ?_
  refine va_get (ci := 0) (v := .ref (a 0)) (C := RX0) (T := TX0) (N := 10) hx hb hts kr_wsX0 hown hK hP 0 rfl rfl 0 (by decide) (hts _ kq_42) (fun _ h9 => h9) rfl dX0_addKnot_73 ?_
  refine lv_iload hx hb dX0_addKnot_76 (lv_at hl 0 rfl) ?_
  refine lv_iload_n hx hb dX0_addKnot_78 rfl (lv_at hl 2 rfl) ?_
  refine kr_ast hx hb hK hP hD hS 1 0 rfl rfl N (by omega) (by decide) dX0_addKnot_79 (fun H locs hP hD hS => ?_)
  have hP : va_P D vwCl (kr_W0 cy h a N L (kr_up A 0 (upd (A 0) N x))) H := hP
  have hD : va_D AA (kr_W0 cy h a N L (kr_up A 0 (upd (A 0) N x))) := hD
  refine lv_aload_n hx hb dX0_addKnot_80 rfl (lv_at hl 1 rfl) ?_
  refine va_get (ci := 0) (v := .ref (a 1)) (C := RX0) (T := TX0) (N := 10) hx hb hts kr_wsX0 hown hK hP 0 rfl rfl 1 (by decide) (hts _ kq_43) (fun _ h9 => h9) rfl dX0_addKnot_81 ?_
  refine lv_iload hx hb dX0_addKnot_84 (lv_at hl 0 rfl) ?_
  refine lv_iload_n hx hb dX0_addKnot_86 rfl (lv_at hl 3 rfl) ?_
  refine kr_ast hx hb hK hP hD hS 2 0 rfl rfl N (by omega) (by decide) dX0_addKnot_87 (fun H locs hP hD hS => ?_)
  have hP : va_P D vwCl (kr_W0 cy h a N L (kr_up (kr_up A 0 (upd (A 0) N x)) 1 (upd (A 1) N y))) H := hP
  have hD : va_D AA (kr_W0 cy h a N L (kr_up (kr_up A 0 (upd (A 0) N x)) 1 (upd (A 1) N y))) := hD
  refine lv_aload_n hx hb dX0_addKnot_88 rfl (lv_at hl 1 rfl) ?_
  refine va_get (ci := 0) (v := .ref (a 2)) (C := RX0) (T := TX0) (N := 10) hx hb hts kr_wsX0 hown hK hP 0 rfl rfl 2 (by decide) (hts _ kq_44) (fun _ h9 => h9) rfl dX0_addKnot_89 ?_
  refine lv_iload hx hb dX0_addKnot_92 (lv_at hl 0 rfl) ?_
  refine lv_iload_n hx hb dX0_addKnot_94 rfl (lv_at hl 4 rfl) ?_
  refine kr_ast hx hb hK hP hD hS 3 0 rfl rfl N (by omega) (by decide) dX0_addKnot_95 (fun H locs hP hD hS => ?_)
  have hP : va_P D vwCl (kr_W0 cy h a N L (kr_up (kr_up (kr_up A 0 (upd (A 0) N x)) 1 (upd (A 1) N y)) 2 (upd (A 2) N z))) H := hP
  have hD : va_D AA (kr_W0 cy h a N L (kr_up (kr_up (kr_up A 0 (upd (A 0) N x)) 1 (upd (A 1) N y)) 2 (upd (A 2) N z))) := hD
  refine lv_aload_n hx hb dX0_addKnot_96 rfl (lv_at hl 1 rfl) ?_
  refine va_get (ci := 0) (v := .ref (a 3)) (C := RX0) (T := TX0) (N := 10) hx hb hts kr_wsX0 hown hK hP 0 rfl rfl 3 (by decide) (hts _ kq_45) (fun _ h9 => h9) rfl dX0_addKnot_97 ?_
  refine lv_iload hx hb dX0_addKnot_100 (lv_at hl 0 rfl) ?_
  refine lv_iconst (v := 0) hx hb dX0_addKnot_102 (by decide) ?_
  refine kr_ast hx hb hK hP hD hS 4 0 rfl rfl N (by omega) (by decide) dX0_addKnot_103 (fun H locs hP hD hS => ?_)
  have hP : va_P D vwCl (kr_W0 cy h a N L (kr_up (kr_up (kr_up (kr_up A 0 (upd (A 0) N x)) 1 (upd (A 1) N y)) 2 (upd (A 2) N z)) 3 (upd (A 3) N 0))) H := hP
  have hD : va_D AA (kr_W0 cy h a N L (kr_up (kr_up (kr_up (kr_up A 0 (upd (A 0) N x)) 1 (upd (A 1) N y)) 2 (upd (A 2) N z)) 3 (upd (A 3) N 0))) := hD
  refine lv_aload_n hx hb dX0_addKnot_104 rfl (lv_at hl 1 rfl) ?_
  refine va_get (ci := 0) (v := .ref (a 4)) (C := RX0) (T := TX0) (N := 10) hx hb hts kr_wsX0 hown hK hP 0 rfl rfl 4 (by decide) (hts _ kq_46) (fun _ h9 => h9) rfl dX0_addKnot_105 ?_
  refine lv_iload hx hb dX0_addKnot_108 (lv_at hl 0 rfl) ?_
  refine lv_iconst (v := -1) hx hb dX0_addKnot_110 (by decide) ?_
  refine kr_ast hx hb hK hP hD hS 5 0 rfl rfl N (by omega) (by decide) dX0_addKnot_111 (fun H locs hP hD hS => ?_)
  have hP : va_P D vwCl (kr_W0 cy h a N L (kr_up (kr_up (kr_up (kr_up (kr_up A 0 (upd (A 0) N x)) 1 (upd (A 1) N y)) 2 (upd (A 2) N z)) 3 (upd (A 3) N 0)) 4 (upd (A 4) N (-1)))) H := hP
  have hD : va_D AA (kr_W0 cy h a N L (kr_up (kr_up (kr_up (kr_up (kr_up A 0 (upd (A 0) N x)) 1 (upd (A 1) N y)) 2 (upd (A 2) N z)) 3 (upd (A 3) N 0)) 4 (upd (A 4) N (-1)))) := hD
  refine lv_aload_n hx hb dX0_addKnot_112 rfl (lv_at hl 1 rfl) ?_
  refine lv_iload hx hb dX0_addKnot_113 (lv_at hl 0 rfl) ?_
  refine lv_iconst (v := 1) hx hb dX0_addKnot_115 (by decide) ?_
  refine kr_iaddN hx hb N 1 dX0_addKnot_116 ?_
  refine va_put (ci := 0) (v := .int (nI (N + 1))) (ty := .int) (C := RX0) (T := TX0) (N := 10) hx hb hts kr_wsX0 tyX0 tyX0_ok nmX0 hown hK hP hD hS 0 rfl rfl 5 (by decide) (hts _ kq_47) (fun _ h9 => h9) rfl (by decide +kernel) rfl rfl (Nat.le_of_ble_eq_true rfl) dX0_addKnot_117 (fun H locs hP hD hS => ?_)
  have hP : va_P D vwCl (kr_W0 cy h a (N + 1) L (kr_up (kr_up (kr_up (kr_up (kr_up A 0 (upd (A 0) N x)) 1 (upd (A 1) N y)) 2 (upd (A 2) N z)) 3 (upd (A 3) N 0)) 4 (upd (A 4) N (-1)))) H := hP
  have hD : va_D AA (kr_W0 cy h a (N + 1) L (kr_up (kr_up (kr_up (kr_up (kr_up A 0 (upd (A 0) N x)) 1 (upd (A 1) N y)) 2 (upd (A 2) N z)) 3 (upd (A 3) N 0)) 4 (upd (A 4) N (-1)))) := hD
  refine lv_iload hx hb dX0_addKnot_120 (lv_at hl 0 rfl) ?_
  exact kr_wI hx hb hr hlocks hP hK hD hS rfl dX0_addKnot_122
set_option maxHeartbeats 4000000 in
set_option maxRecDepth 100000 in
theorem c_X0_setSpill (l : Launch) (D : va_G) (cy : ClassId) (h : Nat) (a : Nat → Nat) (N L : Nat) (A : Nat → Nat → Int32) (sz : Nat) (k : Nat) (y z : Int32) (hN : N ≤ 16) (hk : k < N) (hy : ¬ y < 1 ∧ ¬ 999 < y) (hz : ¬ z < -1 ∧ z < nI k) (hz2 : z = -1 ∨ ∃ j, j < k ∧ z = nI j ∧ A 0 j = A 0 k) : Met l yX0_setSpill (Cond.code yX0_setSpill cX0_setSpill 5 (some .int) :: kr_all) ({ frames := 2, cells := 0, slots := 0, locals := 42 }) (va_Pc [.ref h, .int (nI k), .int y, .int z] (kr_Rw D (kr_W0 cy h a N L A) cy sz)) (va_Qi (fun r (_ : Unit) => r = A 3 k) (fun _ t => kr_Rq D (kr_W0 cy h a N L (kr_sA A k y z)) cy (va_A (kr_W0 cy h a N L A) sz) t) (va_A (kr_W0 cy h a N L A) sz)) 0 0 (va_A (kr_W0 cy h a N L A) sz) := by
  refine kr_ofw (Qc := fun AA => va_Qi (fun r (_ : Unit) => r = A 3 k) (fun _ t => kr_Rq D (kr_W0 cy h a N L (kr_sA A k y z)) cy AA t) AA) (by decide) (Nat.le_of_ble_eq_true rfl) ?_
  intro p e s m below meth c ls AA hx hb hml hr hts hown hlocks hin hA hP hK hD hS hl
  have hown : s.vm.findClass RX0 = some m.cls := hown
  have hl : lv_has ls 5 [(0, .ref h), (1, .int (nI k)), (2, .int y), (3, .int z)] := hl
  refine lv_aload_n hx hb dX0_setSpill_0 rfl (lv_at hl 0 rfl) ?_
  refine lv_iload_n hx hb dX0_setSpill_1 rfl (lv_at hl 1 rfl) ?_
  refine kr_vV (n := 1) (As := [.int (nI k)]) (rest := []) ⟨hx, hb, hml, hown, hts⟩ (c_X0_checkKnot l D cy h a N L A k (by omega) (by omega)) kg_RX0_59 ⟨rfl, rfl⟩ (by decide +kernel) ⟨Nat.le_of_ble_eq_true rfl, Nat.le_of_ble_eq_true rfl⟩ (kr_pv0 hP hK) rfl hl.1 rfl (Nat.le_of_ble_eq_true rfl) dX0_setSpill_2 ⟨Nat.zero_le _, Nat.zero_le _⟩ ?_
  refine lv_iload_n hx hb dX0_setSpill_5 rfl (lv_at hl 2 rfl) ?_
  refine kr_sV (n := 1) (As := [.int y]) (rest := []) ⟨hx, hb, hml, hown, hts⟩ (c_X0_checkLoad l y (by assumption)) kg_RX0_62 ⟨rfl, rfl⟩ (by decide +kernel) ⟨Nat.le_of_ble_eq_true rfl, Nat.le_of_ble_eq_true rfl⟩ ⟨kr_blT, fun U hU hW => ⟨rfl, trivial⟩⟩ rfl hl.1 rfl (Nat.le_of_ble_eq_true rfl) dX0_setSpill_6 ⟨Nat.zero_le _, Nat.zero_le _⟩ ?_
  refine lv_iload_n hx hb dX0_setSpill_9 rfl (lv_at hl 3 rfl) ?_
  refine lv_iconst (v := -1) hx hb dX0_setSpill_10 (by decide) ?_
  refine lv_icmp_lt (tgt := 19) hx hb dX0_setSpill_11 (by decide) (fun c11 => absurd c11 hz.1) (fun c11 => ?_)
  refine lv_iload_n hx hb dX0_setSpill_14 rfl (lv_at hl 3 rfl) ?_
  refine lv_iload_n hx hb dX0_setSpill_15 rfl (lv_at hl 1 rfl) ?_
  refine lv_icmp_lt (tgt := 29) hx hb dX0_setSpill_16 (by decide) (fun c16 => ?_) (fun c16 => absurd hz.2 c16)
  refine lv_iload_n hx hb dX0_setSpill_29 rfl (lv_at hl 3 rfl) ?_
  refine lv_iconst (v := -1) hx hb dX0_setSpill_30 (by decide) ?_
  refine lv_icmp_eq (tgt := 59) hx hb dX0_setSpill_31 (by decide) (fun c31 => ?_) (fun c31 => ?_)
  · refine lv_aload_n hx hb dX0_setSpill_59 rfl (lv_at hl 0 rfl) ?_
    refine va_get (ci := 0) (v := .ref (a 3)) (C := RX0) (T := TX0) (N := 10) hx hb hts kr_wsX0 hown hK hP 0 rfl rfl 3 (by decide) (hts _ kq_45) (fun _ h9 => h9) rfl dX0_setSpill_60 ?_
    refine lv_iload_n hx hb dX0_setSpill_63 rfl (lv_at hl 1 rfl) ?_
    refine kr_ald hx hb hK hP 4 0 rfl rfl k (by omega) (by decide) dX0_setSpill_64 ?_
    refine lv_istore (lv' := [(4, .int (A 3 k)), (0, .ref h), (1, .int (nI k)), (2, .int y), (3, .int z)]) hx hb dX0_setSpill_65 hl (by decide) rfl (fun ls hl => ?_)
    refine lv_aload_n hx hb dX0_setSpill_67 rfl (lv_at hl 1 rfl) ?_
    refine va_get (ci := 0) (v := .ref (a 3)) (C := RX0) (T := TX0) (N := 10) hx hb hts kr_wsX0 hown hK hP 0 rfl rfl 3 (by decide) (hts _ kq_45) (fun _ h9 => h9) rfl dX0_setSpill_68 ?_
    refine lv_iload_n hx hb dX0_setSpill_71 rfl (lv_at hl 2 rfl) ?_
    refine lv_iload_n hx hb dX0_setSpill_72 rfl (lv_at hl 3 rfl) ?_
    refine kr_ast hx hb hK hP hD hS 4 0 rfl rfl k (by omega) (by decide) dX0_setSpill_73 (fun H locs hP hD hS => ?_)
    have hP : va_P D vwCl (kr_W0 cy h a N L (kr_up A 3 (upd (A 3) k y))) H := hP
    have hD : va_D AA (kr_W0 cy h a N L (kr_up A 3 (upd (A 3) k y))) := hD
    refine lv_aload_n hx hb dX0_setSpill_74 rfl (lv_at hl 1 rfl) ?_
    refine va_get (ci := 0) (v := .ref (a 4)) (C := RX0) (T := TX0) (N := 10) hx hb hts kr_wsX0 hown hK hP 0 rfl rfl 4 (by decide) (hts _ kq_46) (fun _ h9 => h9) rfl dX0_setSpill_75 ?_
    refine lv_iload_n hx hb dX0_setSpill_78 rfl (lv_at hl 2 rfl) ?_
    refine lv_iload_n hx hb dX0_setSpill_79 rfl (lv_at hl 4 rfl) ?_
    refine kr_ast hx hb hK hP hD hS 5 0 rfl rfl k (by omega) (by decide) dX0_setSpill_80 (fun H locs hP hD hS => ?_)
    have hP : va_P D vwCl (kr_W0 cy h a N L (kr_up (kr_up A 3 (upd (A 3) k y)) 4 (upd (A 4) k z))) H := hP
    have hD : va_D AA (kr_W0 cy h a N L (kr_up (kr_up A 3 (upd (A 3) k y)) 4 (upd (A 4) k z))) := hD
    refine lv_iload hx hb dX0_setSpill_81 (lv_at hl 0 rfl) ?_
    exact kr_wI hx hb hr hlocks hP hK hD hS rfl dX0_setSpill_83
  · obtain ⟨j, hj, rfl, ej⟩ := hz2.resolve_left c31
    refine lv_aload_n hx hb dX0_setSpill_34 rfl (lv_at hl 0 rfl) ?_
    refine va_get (ci := 0) (v := .ref (a 0)) (C := RX0) (T := TX0) (N := 10) hx hb hts kr_wsX0 hown hK hP 0 rfl rfl 0 (by decide) (hts _ kq_42) (fun _ h9 => h9) rfl dX0_setSpill_35 ?_
    refine lv_iload_n hx hb dX0_setSpill_38 rfl (lv_at hl 3 rfl) ?_
    refine kr_ald hx hb hK hP 1 0 rfl rfl j (by omega) (by decide) dX0_setSpill_39 ?_
    refine lv_aload_n hx hb dX0_setSpill_40 rfl (lv_at hl 0 rfl) ?_
    refine va_get (ci := 0) (v := .ref (a 0)) (C := RX0) (T := TX0) (N := 10) hx hb hts kr_wsX0 hown hK hP 0 rfl rfl 0 (by decide) (hts _ kq_42) (fun _ h9 => h9) rfl dX0_setSpill_41 ?_
    refine lv_iload_n hx hb dX0_setSpill_44 rfl (lv_at hl 1 rfl) ?_
    refine kr_ald hx hb hK hP 1 0 rfl rfl k (by omega) (by decide) dX0_setSpill_45 ?_
    refine lv_icmp_eq (tgt := 59) hx hb dX0_setSpill_46 (by decide) (fun c46 => ?_) (fun c46 => absurd ej c46)
    refine lv_aload_n hx hb dX0_setSpill_59 rfl (lv_at hl 0 rfl) ?_
    refine va_get (ci := 0) (v := .ref (a 3)) (C := RX0) (T := TX0) (N := 10) hx hb hts kr_wsX0 hown hK hP 0 rfl rfl 3 (by decide) (hts _ kq_45) (fun _ h9 => h9) rfl dX0_setSpill_60 ?_
    refine lv_iload_n hx hb dX0_setSpill_63 rfl (lv_at hl 1 rfl) ?_
    refine kr_ald hx hb hK hP 4 0 rfl rfl k (by omega) (by decide) dX0_setSpill_64 ?_
    refine lv_istore (lv' := [(4, .int (A 3 k)), (0, .ref h), (1, .int (nI k)), (2, .int y), (3, .int (nI j))]) hx hb dX0_setSpill_65 hl (by decide) rfl (fun ls hl => ?_)
    refine lv_aload_n hx hb dX0_setSpill_67 rfl (lv_at hl 1 rfl) ?_
    refine va_get (ci := 0) (v := .ref (a 3)) (C := RX0) (T := TX0) (N := 10) hx hb hts kr_wsX0 hown hK hP 0 rfl rfl 3 (by decide) (hts _ kq_45) (fun _ h9 => h9) rfl dX0_setSpill_68 ?_
    refine lv_iload_n hx hb dX0_setSpill_71 rfl (lv_at hl 2 rfl) ?_
    refine lv_iload_n hx hb dX0_setSpill_72 rfl (lv_at hl 3 rfl) ?_
    refine kr_ast hx hb hK hP hD hS 4 0 rfl rfl k (by omega) (by decide) dX0_setSpill_73 (fun H locs hP hD hS => ?_)
    have hP : va_P D vwCl (kr_W0 cy h a N L (kr_up A 3 (upd (A 3) k y))) H := hP
    have hD : va_D AA (kr_W0 cy h a N L (kr_up A 3 (upd (A 3) k y))) := hD
    refine lv_aload_n hx hb dX0_setSpill_74 rfl (lv_at hl 1 rfl) ?_
    refine va_get (ci := 0) (v := .ref (a 4)) (C := RX0) (T := TX0) (N := 10) hx hb hts kr_wsX0 hown hK hP 0 rfl rfl 4 (by decide) (hts _ kq_46) (fun _ h9 => h9) rfl dX0_setSpill_75 ?_
    refine lv_iload_n hx hb dX0_setSpill_78 rfl (lv_at hl 2 rfl) ?_
    refine lv_iload_n hx hb dX0_setSpill_79 rfl (lv_at hl 4 rfl) ?_
    refine kr_ast hx hb hK hP hD hS 5 0 rfl rfl k (by omega) (by decide) dX0_setSpill_80 (fun H locs hP hD hS => ?_)
    have hP : va_P D vwCl (kr_W0 cy h a N L (kr_up (kr_up A 3 (upd (A 3) k y)) 4 (upd (A 4) k (nI j)))) H := hP
    have hD : va_D AA (kr_W0 cy h a N L (kr_up (kr_up A 3 (upd (A 3) k y)) 4 (upd (A 4) k (nI j)))) := hD
    refine lv_iload hx hb dX0_setSpill_81 (lv_at hl 0 rfl) ?_
    exact kr_wI hx hb hr hlocks hP hK hD hS rfl dX0_setSpill_83
theorem kg_RX0_78 : GoodIn kr_all (wsV RX0 78 RX0 yX0_appendRope (Cond.code yX0_appendRope cX0_appendRope 5 none :: kr_all)) := kr_gV kq_492 kq_494 kq_23 kq_25 kq_495
set_option maxHeartbeats 4000000 in
set_option maxRecDepth 100000 in
theorem c_X0_tie (l : Launch) (D : va_G) (cy : ClassId) (h : Nat) (a : Nat → Nat) (N L : Nat) (A : Nat → Nat → Int32) (sz : Nat) (k : Nat) (z : Int32) (hN : N ≤ 16) (hk : k < N) (he : A 0 k = 1) (hz : ¬ z < 1 ∧ ¬ 999 < z) (hL : L < 6) : Met l yX0_tie (Cond.code yX0_tie cX0_tie 4 (some .int) :: kr_all) ({ frames := 2, cells := 0, slots := 0, locals := 45 }) (va_Pc [.ref h, .int (nI k), .int z] (kr_Rw D (kr_W0 cy h a N L A) cy sz)) (va_Qi (fun r (_ : Unit) => r = nI L) (fun _ t => kr_Rq D (kr_W0 cy h a N (L + 1) (kr_tA A L k z)) cy (va_A (kr_W0 cy h a N L A) sz) t) (va_A (kr_W0 cy h a N L A) sz)) 0 0 (va_A (kr_W0 cy h a N L A) sz) := by
  refine kr_ofw (Qc := fun AA => va_Qi (fun r (_ : Unit) => r = nI L) (fun _ t => kr_Rq D (kr_W0 cy h a N (L + 1) (kr_tA A L k z)) cy AA t) AA) (by decide) (Nat.le_of_ble_eq_true rfl) ?_
  intro p e s m below meth c ls AA hx hb hml hr hts hown hlocks hin hA hP hK hD hS hl
  have hown : s.vm.findClass RX0 = some m.cls := hown
  have hl : lv_has ls 4 [(0, .ref h), (1, .int (nI k)), (2, .int z)] := hl
  refine lv_aload_n hx hb dX0_tie_0 rfl (lv_at hl 0 rfl) ?_
  refine lv_iload_n hx hb dX0_tie_1 rfl (lv_at hl 1 rfl) ?_
  refine kr_vV (n := 1) (As := [.int (nI k)]) (rest := []) ⟨hx, hb, hml, hown, hts⟩ (c_X0_checkKnot l D cy h a N L A k (by omega) (by omega)) kg_RX0_59 ⟨rfl, rfl⟩ (by decide +kernel) ⟨Nat.le_of_ble_eq_true rfl, Nat.le_of_ble_eq_true rfl⟩ (kr_pv0 hP hK) rfl hl.1 rfl (Nat.le_of_ble_eq_true rfl) dX0_tie_2 ⟨Nat.zero_le _, Nat.zero_le _⟩ ?_
  refine lv_aload_n hx hb dX0_tie_5 rfl (lv_at hl 0 rfl) ?_
  refine lv_iload_n hx hb dX0_tie_6 rfl (lv_at hl 1 rfl) ?_
  refine lv_iconst (v := 1) hx hb dX0_tie_7 (by decide) ?_
  refine kr_vV (n := 2) (As := [.int (nI k), .int 1]) (rest := []) ⟨hx, hb, hml, hown, hts⟩ (c_X0_checkOfKind l D cy h a N L A k 1 (by omega) (by assumption)) kg_RX0_69 ⟨rfl, rfl⟩ (by decide +kernel) ⟨Nat.le_of_ble_eq_true rfl, Nat.le_of_ble_eq_true rfl⟩ (kr_pv0 hP hK) rfl hl.1 rfl (Nat.le_of_ble_eq_true rfl) dX0_tie_8 ⟨Nat.zero_le _, Nat.zero_le _⟩ ?_
  refine lv_iload_n hx hb dX0_tie_11 rfl (lv_at hl 2 rfl) ?_
  refine kr_sV (n := 1) (As := [.int z]) (rest := []) ⟨hx, hb, hml, hown, hts⟩ (c_X0_checkStrength l z (by assumption)) kg_RX0_73 ⟨rfl, rfl⟩ (by decide +kernel) ⟨Nat.le_of_ble_eq_true rfl, Nat.le_of_ble_eq_true rfl⟩ ⟨kr_blT, fun U hU hW => ⟨rfl, trivial⟩⟩ rfl hl.1 rfl (Nat.le_of_ble_eq_true rfl) dX0_tie_12 ⟨Nat.zero_le _, Nat.zero_le _⟩ ?_
  refine lv_aload_n hx hb dX0_tie_15 rfl (lv_at hl 0 rfl) ?_
  refine va_get (ci := 0) (v := .int (nI L)) (C := RX0) (T := TX0) (N := 10) hx hb hts kr_wsX0 hown hK hP 0 rfl rfl 7 (by decide) (hts _ kq_49) (fun _ h9 => h9) rfl dX0_tie_16 ?_
  refine lv_bipush (v := 6) hx hb dX0_tie_19 (by decide) ?_
  refine lv_icmp_lt (tgt := 34) hx hb dX0_tie_21 (by decide) (fun c21 => ?_) (fun c21 => absurd (nI_lt (b := 6) hL (by decide)) c21)
  refine lv_aload_n hx hb dX0_tie_34 rfl (lv_at hl 0 rfl) ?_
  refine va_get (ci := 0) (v := .int (nI L)) (C := RX0) (T := TX0) (N := 10) hx hb hts kr_wsX0 hown hK hP 0 rfl rfl 7 (by decide) (hts _ kq_49) (fun _ h9 => h9) rfl dX0_tie_35 ?_
  refine lv_istore_n (lv' := [(3, .int (nI L)), (0, .ref h), (1, .int (nI k)), (2, .int z)]) hx hb dX0_tie_38 rfl hl (by decide) rfl (fun ls hl => ?_)
  refine lv_aload_n hx hb dX0_tie_39 rfl (lv_at hl 1 rfl) ?_
  refine lv_iload_n hx hb dX0_tie_40 rfl (lv_at hl 0 rfl) ?_
  refine lv_iconst (v := 1) hx hb dX0_tie_41 (by decide) ?_
  refine kr_iaddN hx hb L 1 dX0_tie_42 ?_
  refine va_put (ci := 0) (v := .int (nI (L + 1))) (ty := .int) (C := RX0) (T := TX0) (N := 10) hx hb hts kr_wsX0 tyX0 tyX0_ok nmX0 hown hK hP hD hS 0 rfl rfl 7 (by decide) (hts _ kq_49) (fun _ h9 => h9) rfl (by decide +kernel) rfl rfl (Nat.le_of_ble_eq_true rfl) dX0_tie_43 (fun H locs hP hD hS => ?_)
  have hP : va_P D vwCl (kr_W0 cy h a N (L + 1) A) H := hP
  have hD : va_D AA (kr_W0 cy h a N (L + 1) A) := hD
  refine lv_aload_n hx hb dX0_tie_46 rfl (lv_at hl 1 rfl) ?_
  refine va_get (ci := 0) (v := .ref (a 5)) (C := RX0) (T := TX0) (N := 10) hx hb hts kr_wsX0 hown hK hP 0 rfl rfl 6 (by decide) (hts _ kq_48) (fun _ h9 => h9) rfl dX0_tie_47 ?_
  refine lv_iload_n hx hb dX0_tie_50 rfl (lv_at hl 0 rfl) ?_
  refine lv_iconst (v := 0) hx hb dX0_tie_51 (by decide) ?_
  refine kr_ast hx hb hK hP hD hS 6 0 rfl rfl L (by omega) (by decide) dX0_tie_52 (fun H locs hP hD hS => ?_)
  have hP : va_P D vwCl (kr_W0 cy h a N (L + 1) (kr_up A 5 (upd (A 5) L 0))) H := hP
  have hD : va_D AA (kr_W0 cy h a N (L + 1) (kr_up A 5 (upd (A 5) L 0))) := hD
  refine lv_aload_n hx hb dX0_tie_53 rfl (lv_at hl 1 rfl) ?_
  refine lv_iload_n hx hb dX0_tie_54 rfl (lv_at hl 0 rfl) ?_
  refine lv_iload_n hx hb dX0_tie_55 rfl (lv_at hl 2 rfl) ?_
  refine lv_iload_n hx hb dX0_tie_56 rfl (lv_at hl 3 rfl) ?_
  refine kr_wvV (n := 3) (As := [.int (nI L), .int (nI k), .int z]) (rest := []) ⟨hx, hb, hml, hown, hts⟩ (c_X0_appendRope l D cy h a N (L + 1) (kr_up A 5 (upd (A 5) L 0)) H.size L 0 k z (by omega) (by omega) pk_us) kg_RX0_78 ⟨rfl, rfl⟩ (by decide +kernel) ⟨Nat.le_of_ble_eq_true rfl, Nat.le_of_ble_eq_true rfl⟩ (va_recv hK hP (ci := 0) (q0 := 0) rfl rfl) hP hK hD hS hA rfl hl.1 rfl (Nat.le_of_ble_eq_true rfl) dX0_tie_57 ⟨Nat.le_of_ble_eq_true rfl, Nat.le_of_ble_eq_true rfl⟩ (fun u9 H locs e9 hP hD hS => ?_)
  rw [show kr_jA (kr_up A 5 (upd (A 5) L 0)) L 0 k z = kr_tA A L k z from kr_tA0 L k z] at hP hD
  refine lv_iload_n hx hb dX0_tie_60 rfl (lv_at hl 0 rfl) ?_
  exact kr_wI hx hb hr hlocks hP hK hD hS rfl dX0_tie_61
set_option maxHeartbeats 4000000 in
set_option maxRecDepth 100000 in
theorem c_X0_join (l : Launch) (D : va_G) (cy : ClassId) (h : Nat) (a : Nat → Nat) (N L : Nat) (A : Nat → Nat → Int32) (sz : Nat) (q r0 k : Nat) (z : Int32) (hN : N ≤ 16) (hL : L ≤ 6) (hq : q < L) (hk : k < N) (he : A 0 k = 0) (hz : ¬ z < 1 ∧ ¬ 999 < z) (er : A 5 q = nI r0) (hr0 : 0 < r0) (hr5 : r0 < 5) : Met l yX0_join (Cond.code yX0_join cX0_join 4 (some .int) :: kr_all) ({ frames := 2, cells := 0, slots := 0, locals := 45 }) (va_Pc [.ref h, .int (nI q), .int (nI k), .int z] (kr_Rw D (kr_W0 cy h a N L A) cy sz)) (va_Qi (fun r (_ : Unit) => r = nI (r0 + 1)) (fun _ t => kr_Rq D (kr_W0 cy h a N L (kr_jA A q r0 k z)) cy (va_A (kr_W0 cy h a N L A) sz) t) (va_A (kr_W0 cy h a N L A) sz)) 0 0 (va_A (kr_W0 cy h a N L A) sz) := by
  refine kr_ofw (Qc := fun AA => va_Qi (fun r (_ : Unit) => r = nI (r0 + 1)) (fun _ t => kr_Rq D (kr_W0 cy h a N L (kr_jA A q r0 k z)) cy AA t) AA) (by decide) (Nat.le_of_ble_eq_true rfl) ?_
  intro p e s m below meth c ls AA hx hb hml hr hts hown hlocks hin hA hP hK hD hS hl
  have hown : s.vm.findClass RX0 = some m.cls := hown
  have hl : lv_has ls 4 [(0, .ref h), (1, .int (nI q)), (2, .int (nI k)), (3, .int z)] := hl
  have hg : ¬ A 5 q = 0 := by rw [er]; exact nI_ne0 hr0 (by omega)
  refine lv_aload_n hx hb dX0_join_0 rfl (lv_at hl 0 rfl) ?_
  refine lv_iload_n hx hb dX0_join_1 rfl (lv_at hl 1 rfl) ?_
  refine kr_vV (n := 1) (As := [.int (nI q)]) (rest := []) ⟨hx, hb, hml, hown, hts⟩ (c_X0_checkLine l D cy h a N L A q (by omega) (by omega)) kg_RX0_82 ⟨rfl, rfl⟩ (by decide +kernel) ⟨Nat.le_of_ble_eq_true rfl, Nat.le_of_ble_eq_true rfl⟩ (kr_pv0 hP hK) rfl hl.1 rfl (Nat.le_of_ble_eq_true rfl) dX0_join_2 ⟨Nat.zero_le _, Nat.zero_le _⟩ ?_
  refine lv_aload_n hx hb dX0_join_5 rfl (lv_at hl 0 rfl) ?_
  refine lv_iload_n hx hb dX0_join_6 rfl (lv_at hl 2 rfl) ?_
  refine kr_vV (n := 1) (As := [.int (nI k)]) (rest := []) ⟨hx, hb, hml, hown, hts⟩ (c_X0_checkKnot l D cy h a N L A k (by omega) (by omega)) kg_RX0_59 ⟨rfl, rfl⟩ (by decide +kernel) ⟨Nat.le_of_ble_eq_true rfl, Nat.le_of_ble_eq_true rfl⟩ (kr_pv0 hP hK) rfl hl.1 rfl (Nat.le_of_ble_eq_true rfl) dX0_join_7 ⟨Nat.zero_le _, Nat.zero_le _⟩ ?_
  refine lv_aload_n hx hb dX0_join_10 rfl (lv_at hl 0 rfl) ?_
  refine lv_iload_n hx hb dX0_join_11 rfl (lv_at hl 2 rfl) ?_
  refine lv_iconst (v := 0) hx hb dX0_join_12 (by decide) ?_
  refine kr_vV (n := 2) (As := [.int (nI k), .int 0]) (rest := []) ⟨hx, hb, hml, hown, hts⟩ (c_X0_checkOfKind l D cy h a N L A k 0 (by omega) (by assumption)) kg_RX0_69 ⟨rfl, rfl⟩ (by decide +kernel) ⟨Nat.le_of_ble_eq_true rfl, Nat.le_of_ble_eq_true rfl⟩ (kr_pv0 hP hK) rfl hl.1 rfl (Nat.le_of_ble_eq_true rfl) dX0_join_13 ⟨Nat.zero_le _, Nat.zero_le _⟩ ?_
  refine lv_iload_n hx hb dX0_join_16 rfl (lv_at hl 3 rfl) ?_
  refine kr_sV (n := 1) (As := [.int z]) (rest := []) ⟨hx, hb, hml, hown, hts⟩ (c_X0_checkStrength l z (by assumption)) kg_RX0_73 ⟨rfl, rfl⟩ (by decide +kernel) ⟨Nat.le_of_ble_eq_true rfl, Nat.le_of_ble_eq_true rfl⟩ ⟨kr_blT, fun U hU hW => ⟨rfl, trivial⟩⟩ rfl hl.1 rfl (Nat.le_of_ble_eq_true rfl) dX0_join_17 ⟨Nat.zero_le _, Nat.zero_le _⟩ ?_
  refine lv_aload_n hx hb dX0_join_20 rfl (lv_at hl 0 rfl) ?_
  refine lv_iload_n hx hb dX0_join_21 rfl (lv_at hl 1 rfl) ?_
  refine kr_vV (n := 1) (As := [.int (nI q)]) (rest := []) ⟨hx, hb, hml, hown, hts⟩ (c_X0_checkNotGone l D cy h a N L A q (by omega) (by assumption)) kg_RX0_85 ⟨rfl, rfl⟩ (by decide +kernel) ⟨Nat.le_of_ble_eq_true rfl, Nat.le_of_ble_eq_true rfl⟩ (kr_pv0 hP hK) rfl hl.1 rfl (Nat.le_of_ble_eq_true rfl) dX0_join_22 ⟨Nat.zero_le _, Nat.zero_le _⟩ ?_
  refine lv_aload_n hx hb dX0_join_25 rfl (lv_at hl 0 rfl) ?_
  refine va_get (ci := 0) (v := .ref (a 5)) (C := RX0) (T := TX0) (N := 10) hx hb hts kr_wsX0 hown hK hP 0 rfl rfl 6 (by decide) (hts _ kq_48) (fun _ h9 => h9) rfl dX0_join_26 ?_
  refine lv_iload_n hx hb dX0_join_29 rfl (lv_at hl 1 rfl) ?_
  refine kr_ald hx hb hK hP 6 0 rfl rfl q (by omega) (by decide) dX0_join_30 ?_
  rw [er]
  refine lv_iconst (v := 5) hx hb dX0_join_31 (by decide) ?_
  refine lv_icmp_lt (tgt := 45) hx hb dX0_join_32 (by decide) (fun c32 => ?_) (fun c32 => absurd (nI_lt (b := 5) hr5 (by decide)) c32)
  refine lv_aload_n hx hb dX0_join_45 rfl (lv_at hl 0 rfl) ?_
  refine lv_iload_n hx hb dX0_join_46 rfl (lv_at hl 1 rfl) ?_
  refine lv_iload_n hx hb dX0_join_47 rfl (lv_at hl 2 rfl) ?_
  refine lv_iload_n hx hb dX0_join_48 rfl (lv_at hl 3 rfl) ?_
  refine kr_wvV (n := 3) (As := [.int (nI q), .int (nI k), .int z]) (rest := []) ⟨hx, hb, hml, hown, hts⟩ (c_X0_appendRope l D cy h a N L A s.heap.size q r0 k z (by omega) (by omega) er) kg_RX0_78 ⟨rfl, rfl⟩ (by decide +kernel) ⟨Nat.le_of_ble_eq_true rfl, Nat.le_of_ble_eq_true rfl⟩ (va_recv hK hP (ci := 0) (q0 := 0) rfl rfl) hP hK hD hS hA rfl hl.1 rfl (Nat.le_of_ble_eq_true rfl) dX0_join_49 ⟨Nat.le_of_ble_eq_true rfl, Nat.le_of_ble_eq_true rfl⟩ (fun u9 H locs e9 hP hD hS => ?_)
  refine lv_aload_n hx hb dX0_join_52 rfl (lv_at hl 0 rfl) ?_
  refine va_get (ci := 0) (v := .ref (a 5)) (C := RX0) (T := TX0) (N := 10) hx hb hts kr_wsX0 hown hK hP 0 rfl rfl 6 (by decide) (hts _ kq_48) (fun _ h9 => h9) rfl dX0_join_53 ?_
  refine lv_iload_n hx hb dX0_join_56 rfl (lv_at hl 1 rfl) ?_
  refine kr_ald hx hb hK hP 6 0 rfl rfl q (by omega) (by decide) dX0_join_57 ?_
  rw [show kr_jA A q r0 k z 5 q = nI (r0 + 1) from pk_us]
  exact kr_wI hx hb hr hlocks hP hK hD hS rfl dX0_join_58
set_option maxHeartbeats 4000000 in
set_option maxRecDepth 100000 in
theorem c_X0_retie (l : Launch) (D : va_G) (cy : ClassId) (h : Nat) (a : Nat → Nat) (N L : Nat) (A : Nat → Nat → Int32) (sz : Nat) (q pl k : Nat) (hw : kr_wf N L A) (hq : q < L) (hp : pl < kr_rc A q) (hk : k < N) (he : A 0 k = if nI pl = 0 then (1 : Int32) else 0) : Met l yX0_retie (Cond.code yX0_retie cX0_retie 6 (some .int) :: kr_all) ({ frames := 2, cells := 0, slots := 0, locals := 43 }) (va_Pc [.ref h, .int (nI q), .int (nI pl), .int (nI k)] (kr_Rw D (kr_W0 cy h a N L A) cy sz)) (va_Qi (fun r (_ : Unit) => r = A 6 (5 * q + pl)) (fun _ t => kr_Rq D (kr_W0 cy h a N L (kr_rA A (5 * q + pl) k)) cy (va_A (kr_W0 cy h a N L A) sz) t) (va_A (kr_W0 cy h a N L A) sz)) 0 0 (va_A (kr_W0 cy h a N L A) sz) := by
  refine kr_ofw (Qc := fun AA => va_Qi (fun r (_ : Unit) => r = A 6 (5 * q + pl)) (fun _ t => kr_Rq D (kr_W0 cy h a N L (kr_rA A (5 * q + pl) k)) cy AA t) AA) (by decide) (Nat.le_of_ble_eq_true rfl) ?_
  intro p e s m below meth c ls AA hx hb hml hr hts hown hlocks hin hA hP hK hD hS hl
  have hown : s.vm.findClass RX0 = some m.cls := hown
  have hl : lv_has ls 6 [(0, .ref h), (1, .int (nI q)), (2, .int (nI pl)), (3, .int (nI k))] := hl
  have hN := hw.1
  have hL := hw.2.1
  obtain ⟨hrc, er⟩ := hw.rc hq
  refine lv_aload_n hx hb dX0_retie_0 rfl (lv_at hl 0 rfl) ?_
  refine lv_iload_n hx hb dX0_retie_1 rfl (lv_at hl 1 rfl) ?_
  refine lv_iload_n hx hb dX0_retie_2 rfl (lv_at hl 2 rfl) ?_
  refine kr_vV (n := 2) (As := [.int (nI q), .int (nI pl)]) (rest := []) ⟨hx, hb, hml, hown, hts⟩ (c_X0_checkPlace l D cy h a N L A q pl hw (by omega) (by omega)) kg_RX0_90 ⟨rfl, rfl⟩ (by decide +kernel) ⟨Nat.le_of_ble_eq_true rfl, Nat.le_of_ble_eq_true rfl⟩ (kr_pv0 hP hK) rfl hl.1 rfl (Nat.le_of_ble_eq_true rfl) dX0_retie_3 ⟨Nat.zero_le _, Nat.zero_le _⟩ ?_
  refine lv_aload_n hx hb dX0_retie_6 rfl (lv_at hl 0 rfl) ?_
  refine lv_iload_n hx hb dX0_retie_7 rfl (lv_at hl 3 rfl) ?_
  refine kr_vV (n := 1) (As := [.int (nI k)]) (rest := []) ⟨hx, hb, hml, hown, hts⟩ (c_X0_checkKnot l D cy h a N L A k (by omega) (by omega)) kg_RX0_59 ⟨rfl, rfl⟩ (by decide +kernel) ⟨Nat.le_of_ble_eq_true rfl, Nat.le_of_ble_eq_true rfl⟩ (kr_pv0 hP hK) rfl hl.1 rfl (Nat.le_of_ble_eq_true rfl) dX0_retie_8 ⟨Nat.zero_le _, Nat.zero_le _⟩ ?_
  refine lv_aload_n hx hb dX0_retie_11 rfl (lv_at hl 0 rfl) ?_
  refine lv_iload_n hx hb dX0_retie_12 rfl (lv_at hl 3 rfl) ?_
  refine lv_iload_n hx hb dX0_retie_13 rfl (lv_at hl 2 rfl) ?_
  refine kr_sI (n := 1) (As := [.int (nI pl)]) (rest := [.int (nI k), .ref h]) ⟨hx, hb, hml, hown, hts⟩ (c_X0_kindDueAt l (nI pl)) kg_RX0_93 ⟨rfl, rfl⟩ (by decide +kernel) ⟨Nat.le_of_ble_eq_true rfl, Nat.le_of_ble_eq_true rfl⟩ ⟨kr_blT, fun U hU hW => ⟨rfl, trivial⟩⟩ rfl hl.1 rfl (Nat.le_of_ble_eq_true rfl) dX0_retie_14 ⟨Nat.zero_le _, Nat.zero_le _⟩ (fun r9 e9 => ?_)
  subst e9
  refine kr_vV (n := 2) (As := [.int (nI k), .int (if (nI pl) = 0 then (1 : Int32) else 0)]) (rest := []) ⟨hx, hb, hml, hown, hts⟩ (c_X0_checkOfKind l D cy h a N L A k (if (nI pl) = 0 then (1 : Int32) else 0) (by omega) (by assumption)) kg_RX0_69 ⟨rfl, rfl⟩ (by decide +kernel) ⟨Nat.le_of_ble_eq_true rfl, Nat.le_of_ble_eq_true rfl⟩ (kr_pv0 hP hK) rfl hl.1 rfl (Nat.le_of_ble_eq_true rfl) dX0_retie_17 ⟨Nat.zero_le _, Nat.zero_le _⟩ ?_
  refine lv_iload_n hx hb dX0_retie_20 rfl (lv_at hl 1 rfl) ?_
  refine lv_iload_n hx hb dX0_retie_21 rfl (lv_at hl 2 rfl) ?_
  refine kr_sI (n := 2) (As := [.int (nI q), .int (nI pl)]) (rest := []) ⟨hx, hb, hml, hown, hts⟩ (c_X0_slot l q pl) kg_RX0_97 ⟨rfl, rfl⟩ (by decide +kernel) ⟨Nat.le_of_ble_eq_true rfl, Nat.le_of_ble_eq_true rfl⟩ ⟨kr_blT, fun U hU hW => ⟨rfl, trivial⟩⟩ rfl hl.1 rfl (Nat.le_of_ble_eq_true rfl) dX0_retie_22 ⟨Nat.zero_le _, Nat.zero_le _⟩ (fun r9 e9 => ?_)
  subst e9
  refine lv_istore (lv' := [(4, .int (nI (5 * q + pl))), (0, .ref h), (1, .int (nI q)), (2, .int (nI pl)), (3, .int (nI k))]) hx hb dX0_retie_25 hl (by decide) rfl (fun ls hl => ?_)
  refine lv_aload_n hx hb dX0_retie_27 rfl (lv_at hl 1 rfl) ?_
  refine va_get (ci := 0) (v := .ref (a 6)) (C := RX0) (T := TX0) (N := 10) hx hb hts kr_wsX0 hown hK hP 0 rfl rfl 8 (by decide) (hts _ kq_50) (fun _ h9 => h9) rfl dX0_retie_28 ?_
  refine lv_iload hx hb dX0_retie_31 (lv_at hl 0 rfl) ?_
  refine kr_ald hx hb hK hP 7 0 rfl rfl (5 * q + pl) (by omega) (by decide) dX0_retie_33 ?_
  refine lv_istore (lv' := [(5, .int (A 6 (5 * q + pl))), (4, .int (nI (5 * q + pl))), (0, .ref h), (1, .int (nI q)), (2, .int (nI pl)), (3, .int (nI k))]) hx hb dX0_retie_34 hl (by decide) rfl (fun ls hl => ?_)
  refine lv_aload_n hx hb dX0_retie_36 rfl (lv_at hl 2 rfl) ?_
  refine va_get (ci := 0) (v := .ref (a 6)) (C := RX0) (T := TX0) (N := 10) hx hb hts kr_wsX0 hown hK hP 0 rfl rfl 8 (by decide) (hts _ kq_50) (fun _ h9 => h9) rfl dX0_retie_37 ?_
  refine lv_iload hx hb dX0_retie_40 (lv_at hl 1 rfl) ?_
  refine lv_iload_n hx hb dX0_retie_42 rfl (lv_at hl 5 rfl) ?_
  refine kr_ast hx hb hK hP hD hS 7 0 rfl rfl (5 * q + pl) (by omega) (by decide) dX0_retie_43 (fun H locs hP hD hS => ?_)
  have hP : va_P D vwCl (kr_W0 cy h a N L (kr_up A 6 (upd (A 6) (5 * q + pl) (nI k)))) H := hP
  have hD : va_D AA (kr_W0 cy h a N L (kr_up A 6 (upd (A 6) (5 * q + pl) (nI k)))) := hD
  refine lv_iload hx hb dX0_retie_44 (lv_at hl 0 rfl) ?_
  exact kr_wI hx hb hr hlocks hP hK hD hS rfl dX0_retie_46
set_option maxHeartbeats 4000000 in
set_option maxRecDepth 100000 in
theorem c_X0_pull (l : Launch) (D : va_G) (cy : ClassId) (h : Nat) (a : Nat → Nat) (N L : Nat) (A : Nat → Nat → Int32) (sz : Nat) (q : Nat) (ld : Int32) (hw : kr_wf N L A) (hq : q < L) (hld : ¬ ld < 1 ∧ ¬ 999 < ld) (hg : ¬ A 5 q = 0) : Met l yX0_pull (Cond.code yX0_pull cX0_pull 6 (some .int) :: kr_all) ({ frames := 5, cells := 0, slots := 0, locals := 114 }) (va_Pc [.ref h, .int (nI q), .int ld] (kr_Rw D (kr_W0 cy h a N L A) cy sz)) (va_Qi (fun r (_ : Unit) => r = kr_gw A q ld) (fun _ t => kr_Rq D (kr_W0 cy h a N L (kr_pA A q ld)) cy (va_A (kr_W0 cy h a N L A) sz) t) (va_A (kr_W0 cy h a N L A) sz)) 0 0 (va_A (kr_W0 cy h a N L A) sz) := by
  refine kr_ofw (Qc := fun AA => va_Qi (fun r (_ : Unit) => r = kr_gw A q ld) (fun _ t => kr_Rq D (kr_W0 cy h a N L (kr_pA A q ld)) cy AA t) AA) (by decide) (Nat.le_of_ble_eq_true rfl) ?_
  intro p e s m below meth c ls AA hx hb hml hr hts hown hlocks hin hA hP hK hD hS hl
  have hown : s.vm.findClass RX0 = some m.cls := hown
  have hl : lv_has ls 6 [(0, .ref h), (1, .int (nI q)), (2, .int ld)] := hl
  have hN := hw.1
  have hL := hw.2.1
  obtain ⟨hrc, er⟩ := hw.rc hq
  have hp5 := (kr_pr_le (ld := ld) hrc).1
  refine lv_aload_n hx hb dX0_pull_0 rfl (lv_at hl 0 rfl) ?_
  refine lv_iload_n hx hb dX0_pull_1 rfl (lv_at hl 1 rfl) ?_
  refine kr_vV (n := 1) (As := [.int (nI q)]) (rest := []) ⟨hx, hb, hml, hown, hts⟩ (c_X0_checkLine l D cy h a N L A q (by omega) (by omega)) kg_RX0_82 ⟨rfl, rfl⟩ (by decide +kernel) ⟨Nat.le_of_ble_eq_true rfl, Nat.le_of_ble_eq_true rfl⟩ (kr_pv0 hP hK) rfl hl.1 rfl (Nat.le_of_ble_eq_true rfl) dX0_pull_2 ⟨Nat.zero_le _, Nat.zero_le _⟩ ?_
  refine lv_iload_n hx hb dX0_pull_5 rfl (lv_at hl 2 rfl) ?_
  refine kr_sV (n := 1) (As := [.int ld]) (rest := []) ⟨hx, hb, hml, hown, hts⟩ (c_X0_checkLoad l ld (by assumption)) kg_RX0_62 ⟨rfl, rfl⟩ (by decide +kernel) ⟨Nat.le_of_ble_eq_true rfl, Nat.le_of_ble_eq_true rfl⟩ ⟨kr_blT, fun U hU hW => ⟨rfl, trivial⟩⟩ rfl hl.1 rfl (Nat.le_of_ble_eq_true rfl) dX0_pull_6 ⟨Nat.zero_le _, Nat.zero_le _⟩ ?_
  refine lv_aload_n hx hb dX0_pull_9 rfl (lv_at hl 0 rfl) ?_
  refine lv_iload_n hx hb dX0_pull_10 rfl (lv_at hl 1 rfl) ?_
  refine kr_vV (n := 1) (As := [.int (nI q)]) (rest := []) ⟨hx, hb, hml, hown, hts⟩ (c_X0_checkNotGone l D cy h a N L A q (by omega) (by assumption)) kg_RX0_85 ⟨rfl, rfl⟩ (by decide +kernel) ⟨Nat.le_of_ble_eq_true rfl, Nat.le_of_ble_eq_true rfl⟩ (kr_pv0 hP hK) rfl hl.1 rfl (Nat.le_of_ble_eq_true rfl) dX0_pull_11 ⟨Nat.zero_le _, Nat.zero_le _⟩ ?_
  refine lv_aload_n hx hb dX0_pull_14 rfl (lv_at hl 0 rfl) ?_
  refine lv_iload_n hx hb dX0_pull_15 rfl (lv_at hl 1 rfl) ?_
  refine lv_iload_n hx hb dX0_pull_16 rfl (lv_at hl 2 rfl) ?_
  refine kr_vI (n := 2) (As := [.int (nI q), .int ld]) (rest := []) ⟨hx, hb, hml, hown, hts⟩ (c_X0_firstPlaceToGiveWay l D cy h a N L A q ld hw (by omega)) kg_RX0_101 ⟨rfl, rfl⟩ (by decide +kernel) ⟨Nat.le_of_ble_eq_true rfl, Nat.le_of_ble_eq_true rfl⟩ (kr_pv0 hP hK) rfl hl.1 rfl (Nat.le_of_ble_eq_true rfl) dX0_pull_17 ⟨Nat.zero_le _, Nat.zero_le _⟩ (fun r9 e9 => ?_)
  subst e9
  refine lv_istore_n (lv' := [(3, .int (kr_gw A q ld)), (0, .ref h), (1, .int (nI q)), (2, .int ld)]) hx hb dX0_pull_20 rfl hl (by decide) rfl (fun ls hl => ?_)
  refine lv_iload_n hx hb dX0_pull_21 rfl (lv_at hl 0 rfl) ?_
  refine lv_iconst (v := -1) hx hb dX0_pull_22 (by decide) ?_
  refine lv_icmp_eq (tgt := 33) hx hb dX0_pull_23 (by decide) (fun c23 => ?_) (fun c23 => ?_)
  · have hP : va_P D vwCl (kr_W0 cy h a N L (kr_pB A q ld 0)) s.heap := by rw [kr_pB0n c23 er]; exact hP
    have hD : va_D AA (kr_W0 cy h a N L (kr_pB A q ld 0)) := by rw [kr_pB0n c23 er]; exact hD
    refine lv_iconst (v := 0) hx hb dX0_pull_33 (by decide) ?_
    refine lv_istore (lv' := [(4, .int 0), (3, .int (kr_gw A q ld)), (0, .ref h), (1, .int (nI q)), (2, .int ld)]) hx hb dX0_pull_34 hl (by decide) rfl (fun ls hl => ?_)
    refine kr_lpH (nL := 6) (fun z : Nat => [(4, .int (nI z)), (3, .int (kr_gw A q ld)), (0, .ref h), (1, .int (nI q)), (2, .int ld)]) (fun z H locs => (z ≤ kr_pr' A q ld) ∧ va_P D vwCl (kr_W0 cy h a N L (kr_pB A q ld z)) H ∧ va_D AA (kr_W0 cy h a N L (kr_pB A q ld z)) ∧ va_S AA s.heap H locs) (fun z => kr_pr' A q ld - z) ?_ (0) ⟨Nat.zero_le _, hP, hD, hS⟩ (lv_sub hl [0, 1, 2, 3, 4] rfl)
    clear hl hP hD hS
    intro z H locs ls hI hl ih
    obtain ⟨i, rfl⟩ : ∃ y, y = z := ⟨_, rfl⟩
    have hl : lv_has ls 6 [(4, .int (nI i)), (3, .int (kr_gw A q ld)), (0, .ref h), (1, .int (nI q)), (2, .int ld)] := hl
    obtain ⟨hi0, hP, hD, hS⟩ : (i ≤ kr_pr' A q ld) ∧ va_P D vwCl (kr_W0 cy h a N L (kr_pB A q ld i)) H ∧ va_D AA (kr_W0 cy h a N L (kr_pB A q ld i)) ∧ va_S AA s.heap H locs := hI
    refine lv_iload hx hb dX0_pull_36 (lv_at hl 0 rfl) ?_
    refine lv_aload_n hx hb dX0_pull_38 rfl (lv_at hl 2 rfl) ?_
    refine va_get (ci := 0) (v := .ref (a 5)) (C := RX0) (T := TX0) (N := 10) hx hb hts kr_wsX0 hown hK hP 0 rfl rfl 6 (by decide) (hts _ kq_48) (fun _ h9 => h9) rfl dX0_pull_39 ?_
    refine lv_iload_n hx hb dX0_pull_42 rfl (lv_at hl 3 rfl) ?_
    refine kr_ald hx hb hK hP 6 0 rfl rfl q (by omega) (by decide) dX0_pull_43 ?_
    rw [kr_pB5]
    refine lv_icmp_ge (tgt := 80) hx hb dX0_pull_44 (by decide) (fun c44 => ?_) (fun c44 => ?_)
    · have hi2 : i = kr_pr' A q ld := by have := kr_ge (by omega) (by omega) c44; omega
      rw [hi2] at hP hD
      refine lv_iload_n hx hb dX0_pull_80 rfl (lv_at hl 1 rfl) ?_
      exact kr_wI hx hb hr hlocks hP hK hD hS rfl dX0_pull_81
    · have hi : i < kr_pr' A q ld := kr_lt (by omega) (by omega) c44
      have hwi := kr_wf_p hw hq hi0
      refine lv_iload_n hx hb dX0_pull_47 rfl (lv_at hl 3 rfl) ?_
      refine lv_iload hx hb dX0_pull_48 (lv_at hl 0 rfl) ?_
      refine kr_sI (n := 2) (As := [.int (nI q), .int (nI i)]) (rest := []) ⟨hx, hb, hml, hown, hts⟩ (c_X0_slot l q i) kg_RX0_97 ⟨rfl, rfl⟩ (by decide +kernel) ⟨Nat.le_of_ble_eq_true rfl, Nat.le_of_ble_eq_true rfl⟩ ⟨kr_blT, fun U hU hW => ⟨rfl, trivial⟩⟩ rfl hl.1 rfl (Nat.le_of_ble_eq_true rfl) dX0_pull_50 ⟨Nat.zero_le _, Nat.zero_le _⟩ (fun r9 e9 => ?_)
      subst e9
      refine lv_istore (lv' := [(5, .int (nI (5 * q + i))), (4, .int (nI i)), (3, .int (kr_gw A q ld)), (0, .ref h), (1, .int (nI q)), (2, .int ld)]) hx hb dX0_pull_53 hl (by decide) rfl (fun ls hl => ?_)
      refine lv_aload_n hx hb dX0_pull_55 rfl (lv_at hl 3 rfl) ?_
      refine va_get (ci := 0) (v := .ref (a 6)) (C := RX0) (T := TX0) (N := 10) hx hb hts kr_wsX0 hown hK hP 0 rfl rfl 8 (by decide) (hts _ kq_50) (fun _ h9 => h9) rfl dX0_pull_56 ?_
      refine lv_iload hx hb dX0_pull_59 (lv_at hl 0 rfl) ?_
      refine lv_aload_n hx hb dX0_pull_61 rfl (lv_at hl 3 rfl) ?_
      refine lv_aload_n hx hb dX0_pull_62 rfl (lv_at hl 3 rfl) ?_
      refine va_get (ci := 0) (v := .ref (a 6)) (C := RX0) (T := TX0) (N := 10) hx hb hts kr_wsX0 hown hK hP 0 rfl rfl 8 (by decide) (hts _ kq_50) (fun _ h9 => h9) rfl dX0_pull_63 ?_
      refine lv_iload hx hb dX0_pull_66 (lv_at hl 0 rfl) ?_
      refine kr_ald hx hb hK hP 7 0 rfl rfl (5 * q + i) (by omega) (by decide) dX0_pull_68 ?_
      rw [kr_pB6]
      refine lv_iload_n hx hb dX0_pull_69 rfl (lv_at hl 5 rfl) ?_
      refine kr_vI (n := 2) (As := [.int (A 6 (5 * q + i)), .int ld]) (rest := [.int (nI (5 * q + i)), .ref (a 6)]) ⟨hx, hb, hml, hown, hts⟩ (c_X0_formUnder l D cy h a N L (kr_pB A q ld i) (A 6 (5 * q + i)) ld hwi (hw.tn hq (by omega))) kg_RX0_104 ⟨rfl, rfl⟩ (by decide +kernel) ⟨Nat.le_of_ble_eq_true rfl, Nat.le_of_ble_eq_true rfl⟩ (kr_pv0 hP hK) rfl hl.1 rfl (Nat.le_of_ble_eq_true rfl) dX0_pull_70 ⟨Nat.zero_le _, Nat.zero_le _⟩ (fun r9 e9 => ?_)
      rw [kr_pBf] at e9
      subst e9
      refine kr_ast hx hb hK hP hD hS 7 0 rfl rfl (5 * q + i) (by omega) (by decide) dX0_pull_73 (fun H locs hP hD hS => ?_)
      have hP : va_P D vwCl (kr_W0 cy h a N L (kr_up (kr_pB A q ld i) 6 (upd ((kr_pB A q ld i) 6) (5 * q + i) (kr_fm A ld 16 (A 6 (5 * q + i)))))) H := hP
      have hD : va_D AA (kr_W0 cy h a N L (kr_up (kr_pB A q ld i) 6 (upd ((kr_pB A q ld i) 6) (5 * q + i) (kr_fm A ld 16 (A 6 (5 * q + i)))))) := hD
      rw [show kr_up (kr_pB A q ld i) 6 (upd ((kr_pB A q ld i) 6) (5 * q + i) (kr_fm A ld 16 (A 6 (5 * q + i)))) = kr_pB A q ld (i + 1) from kr_pBs i] at hP hD
      refine lv_iinc (v := nI (i + 1)) (lv' := [(4, .int (nI (i + 1))), (5, .int (nI (5 * q + i))), (3, .int (kr_gw A q ld)), (0, .ref h), (1, .int (nI q)), (2, .int ld)]) hx hb dX0_pull_74 hl (k := 1) rfl (kr_inc _) (by decide) rfl (fun ls hl => ?_)
      refine lv_goto (tgt := 36) hx hb dX0_pull_77 (by decide) ?_
      exact ih (i + 1) _ _ ls ⟨by omega, hP, hD, hS⟩ (by show kr_pr' A q ld - (i + 1) < kr_pr' A q ld - i; omega) (lv_sub hl [0, 2, 3, 4, 5] rfl)
  · obtain ⟨g, hg5, eg⟩ := (kr_gw_kn (ld := ld) hrc).resolve_left c23
    refine lv_aload_n hx hb dX0_pull_26 rfl (lv_at hl 1 rfl) ?_
    refine va_get (ci := 0) (v := .ref (a 5)) (C := RX0) (T := TX0) (N := 10) hx hb hts kr_wsX0 hown hK hP 0 rfl rfl 6 (by decide) (hts _ kq_48) (fun _ h9 => h9) rfl dX0_pull_27 ?_
    refine lv_iload_n hx hb dX0_pull_30 rfl (lv_at hl 2 rfl) ?_
    refine lv_iload_n hx hb dX0_pull_31 rfl (lv_at hl 0 rfl) ?_
    refine kr_ast hx hb hK hP hD hS 6 0 rfl rfl q (by omega) (by decide) dX0_pull_32 (fun H locs hP hD hS => ?_)
    have hP : va_P D vwCl (kr_W0 cy h a N L (kr_up A 5 (upd (A 5) q (kr_gw A q ld)))) H := hP
    have hD : va_D AA (kr_W0 cy h a N L (kr_up A 5 (upd (A 5) q (kr_gw A q ld)))) := hD
    rw [eg, ← kr_pB0y (by omega) eg] at hP hD
    refine lv_iconst (v := 0) hx hb dX0_pull_33 (by decide) ?_
    refine lv_istore (lv' := [(4, .int 0), (3, .int (kr_gw A q ld)), (0, .ref h), (1, .int (nI q)), (2, .int ld)]) hx hb dX0_pull_34 hl (by decide) rfl (fun ls hl => ?_)
    refine kr_lpH (nL := 6) (fun z : Nat => [(4, .int (nI z)), (3, .int (kr_gw A q ld)), (0, .ref h), (1, .int (nI q)), (2, .int ld)]) (fun z H locs => (z ≤ kr_pr' A q ld) ∧ va_P D vwCl (kr_W0 cy h a N L (kr_pB A q ld z)) H ∧ va_D AA (kr_W0 cy h a N L (kr_pB A q ld z)) ∧ va_S AA s.heap H locs) (fun z => kr_pr' A q ld - z) ?_ (0) ⟨Nat.zero_le _, hP, hD, hS⟩ (lv_sub hl [0, 1, 2, 3, 4] rfl)
    clear hl hP hD hS
    intro z H locs ls hI hl ih
    obtain ⟨i, rfl⟩ : ∃ y, y = z := ⟨_, rfl⟩
    have hl : lv_has ls 6 [(4, .int (nI i)), (3, .int (kr_gw A q ld)), (0, .ref h), (1, .int (nI q)), (2, .int ld)] := hl
    obtain ⟨hi0, hP, hD, hS⟩ : (i ≤ kr_pr' A q ld) ∧ va_P D vwCl (kr_W0 cy h a N L (kr_pB A q ld i)) H ∧ va_D AA (kr_W0 cy h a N L (kr_pB A q ld i)) ∧ va_S AA s.heap H locs := hI
    refine lv_iload hx hb dX0_pull_36 (lv_at hl 0 rfl) ?_
    refine lv_aload_n hx hb dX0_pull_38 rfl (lv_at hl 2 rfl) ?_
    refine va_get (ci := 0) (v := .ref (a 5)) (C := RX0) (T := TX0) (N := 10) hx hb hts kr_wsX0 hown hK hP 0 rfl rfl 6 (by decide) (hts _ kq_48) (fun _ h9 => h9) rfl dX0_pull_39 ?_
    refine lv_iload_n hx hb dX0_pull_42 rfl (lv_at hl 3 rfl) ?_
    refine kr_ald hx hb hK hP 6 0 rfl rfl q (by omega) (by decide) dX0_pull_43 ?_
    rw [kr_pB5]
    refine lv_icmp_ge (tgt := 80) hx hb dX0_pull_44 (by decide) (fun c44 => ?_) (fun c44 => ?_)
    · have hi2 : i = kr_pr' A q ld := by have := kr_ge (by omega) (by omega) c44; omega
      rw [hi2] at hP hD
      refine lv_iload_n hx hb dX0_pull_80 rfl (lv_at hl 1 rfl) ?_
      exact kr_wI hx hb hr hlocks hP hK hD hS rfl dX0_pull_81
    · have hi : i < kr_pr' A q ld := kr_lt (by omega) (by omega) c44
      have hwi := kr_wf_p hw hq hi0
      refine lv_iload_n hx hb dX0_pull_47 rfl (lv_at hl 3 rfl) ?_
      refine lv_iload hx hb dX0_pull_48 (lv_at hl 0 rfl) ?_
      refine kr_sI (n := 2) (As := [.int (nI q), .int (nI i)]) (rest := []) ⟨hx, hb, hml, hown, hts⟩ (c_X0_slot l q i) kg_RX0_97 ⟨rfl, rfl⟩ (by decide +kernel) ⟨Nat.le_of_ble_eq_true rfl, Nat.le_of_ble_eq_true rfl⟩ ⟨kr_blT, fun U hU hW => ⟨rfl, trivial⟩⟩ rfl hl.1 rfl (Nat.le_of_ble_eq_true rfl) dX0_pull_50 ⟨Nat.zero_le _, Nat.zero_le _⟩ (fun r9 e9 => ?_)
      subst e9
      refine lv_istore (lv' := [(5, .int (nI (5 * q + i))), (4, .int (nI i)), (3, .int (kr_gw A q ld)), (0, .ref h), (1, .int (nI q)), (2, .int ld)]) hx hb dX0_pull_53 hl (by decide) rfl (fun ls hl => ?_)
      refine lv_aload_n hx hb dX0_pull_55 rfl (lv_at hl 3 rfl) ?_
      refine va_get (ci := 0) (v := .ref (a 6)) (C := RX0) (T := TX0) (N := 10) hx hb hts kr_wsX0 hown hK hP 0 rfl rfl 8 (by decide) (hts _ kq_50) (fun _ h9 => h9) rfl dX0_pull_56 ?_
      refine lv_iload hx hb dX0_pull_59 (lv_at hl 0 rfl) ?_
      refine lv_aload_n hx hb dX0_pull_61 rfl (lv_at hl 3 rfl) ?_
      refine lv_aload_n hx hb dX0_pull_62 rfl (lv_at hl 3 rfl) ?_
      refine va_get (ci := 0) (v := .ref (a 6)) (C := RX0) (T := TX0) (N := 10) hx hb hts kr_wsX0 hown hK hP 0 rfl rfl 8 (by decide) (hts _ kq_50) (fun _ h9 => h9) rfl dX0_pull_63 ?_
      refine lv_iload hx hb dX0_pull_66 (lv_at hl 0 rfl) ?_
      refine kr_ald hx hb hK hP 7 0 rfl rfl (5 * q + i) (by omega) (by decide) dX0_pull_68 ?_
      rw [kr_pB6]
      refine lv_iload_n hx hb dX0_pull_69 rfl (lv_at hl 5 rfl) ?_
      refine kr_vI (n := 2) (As := [.int (A 6 (5 * q + i)), .int ld]) (rest := [.int (nI (5 * q + i)), .ref (a 6)]) ⟨hx, hb, hml, hown, hts⟩ (c_X0_formUnder l D cy h a N L (kr_pB A q ld i) (A 6 (5 * q + i)) ld hwi (hw.tn hq (by omega))) kg_RX0_104 ⟨rfl, rfl⟩ (by decide +kernel) ⟨Nat.le_of_ble_eq_true rfl, Nat.le_of_ble_eq_true rfl⟩ (kr_pv0 hP hK) rfl hl.1 rfl (Nat.le_of_ble_eq_true rfl) dX0_pull_70 ⟨Nat.zero_le _, Nat.zero_le _⟩ (fun r9 e9 => ?_)
      rw [kr_pBf] at e9
      subst e9
      refine kr_ast hx hb hK hP hD hS 7 0 rfl rfl (5 * q + i) (by omega) (by decide) dX0_pull_73 (fun H locs hP hD hS => ?_)
      have hP : va_P D vwCl (kr_W0 cy h a N L (kr_up (kr_pB A q ld i) 6 (upd ((kr_pB A q ld i) 6) (5 * q + i) (kr_fm A ld 16 (A 6 (5 * q + i)))))) H := hP
      have hD : va_D AA (kr_W0 cy h a N L (kr_up (kr_pB A q ld i) 6 (upd ((kr_pB A q ld i) 6) (5 * q + i) (kr_fm A ld 16 (A 6 (5 * q + i)))))) := hD
      rw [show kr_up (kr_pB A q ld i) 6 (upd ((kr_pB A q ld i) 6) (5 * q + i) (kr_fm A ld 16 (A 6 (5 * q + i)))) = kr_pB A q ld (i + 1) from kr_pBs i] at hP hD
      refine lv_iinc (v := nI (i + 1)) (lv' := [(4, .int (nI (i + 1))), (5, .int (nI (5 * q + i))), (3, .int (kr_gw A q ld)), (0, .ref h), (1, .int (nI q)), (2, .int ld)]) hx hb dX0_pull_74 hl (k := 1) rfl (kr_inc _) (by decide) rfl (fun ls hl => ?_)
      refine lv_goto (tgt := 36) hx hb dX0_pull_77 (by decide) ?_
      exact ih (i + 1) _ _ ls ⟨by omega, hP, hD, hS⟩ (by show kr_pr' A q ld - (i + 1) < kr_pr' A q ld - i; omega) (lv_sub hl [0, 2, 3, 4, 5] rfl)
