set_option maxHeartbeats 4000000 in
set_option maxRecDepth 100000 in
theorem c_X1_addKnot (l : Launch) (D : va_G) (cy : ClassId) (h : Nat) (a : Nat → Nat) (th : Int32) (N L : Nat) (A : Nat → Nat → Int32) (sz : Nat) (x y z : Int32) (hN : N ≤ 16) : Met l yX1_addKnot (Cond.code yX1_addKnot cX1_addKnot 4 (some .int) :: kr_all) ({ frames := 1, cells := 0, slots := 0, locals := 22 }) (va_Pc [.ref h, .int x, .int y, .int z] (kr_Rw D (kr_W1 cy h a th N L A) cy sz)) (va_Qi (fun r (_ : Unit) => kr_cd (x = 0 ∨ x = 1) ((¬ y < 10 ∧ ¬ 100 < y) ∧ (¬ z < 1 ∧ ¬ 9 < z)) (N < 16) = 0 → r = nI N) (fun _ t => kr_Rq D (kr_W1 cy h a (kr_cd (x = 0 ∨ x = 1) ((¬ y < 10 ∧ ¬ 100 < y) ∧ (¬ z < 1 ∧ ¬ 9 < z)) (N < 16)) (if kr_cd (x = 0 ∨ x = 1) ((¬ y < 10 ∧ ¬ 100 < y) ∧ (¬ z < 1 ∧ ¬ 9 < z)) (N < 16) = 0 then N + 1 else N) L (if kr_cd (x = 0 ∨ x = 1) ((¬ y < 10 ∧ ¬ 100 < y) ∧ (¬ z < 1 ∧ ¬ 9 < z)) (N < 16) = 0 then kr_aA A N x y z else A)) cy (va_A (kr_W1 cy h a th N L A) sz) t) (va_A (kr_W1 cy h a th N L A) sz)) 0 0 (va_A (kr_W1 cy h a th N L A) sz) := by
  refine kr_ofw (Qc := fun AA => va_Qi (fun r (_ : Unit) => kr_cd (x = 0 ∨ x = 1) ((¬ y < 10 ∧ ¬ 100 < y) ∧ (¬ z < 1 ∧ ¬ 9 < z)) (N < 16) = 0 → r = nI N) (fun _ t => kr_Rq D (kr_W1 cy h a (kr_cd (x = 0 ∨ x = 1) ((¬ y < 10 ∧ ¬ 100 < y) ∧ (¬ z < 1 ∧ ¬ 9 < z)) (N < 16)) (if kr_cd (x = 0 ∨ x = 1) ((¬ y < 10 ∧ ¬ 100 < y) ∧ (¬ z < 1 ∧ ¬ 9 < z)) (N < 16) = 0 then N + 1 else N) L (if kr_cd (x = 0 ∨ x = 1) ((¬ y < 10 ∧ ¬ 100 < y) ∧ (¬ z < 1 ∧ ¬ 9 < z)) (N < 16) = 0 then kr_aA A N x y z else A)) cy AA t) AA) (by decide) (Nat.le_of_ble_eq_true rfl) ?_
  intro p e s m below meth c ls AA hx hb hml hr hts hown hlocks hin hA hP hK hD hS hl
  have hown : s.vm.findClass RX1 = some m.cls := hown
  have hl : lv_has ls 4 [(0, .ref h), (1, .int x), (2, .int y), (3, .int z)] := hl
  refine lv_aload_n hx hb dX1_addKnot_0 rfl (lv_at hl 0 rfl) ?_
  refine lv_iconst (v := 0) hx hb dX1_addKnot_1 (by decide) ?_
  refine va_put (ci := 1) (v := .int 0) (ty := .int) (C := RX1) (T := TX1) (N := 11) hx hb hts kr_wsX1 tyX1 tyX1_ok nmX1 hown hK hP hD hS 0 rfl rfl 0 (by decide) (hts _ kq_542) (fun _ h9 => h9) rfl (by decide +kernel) rfl rfl (Nat.le_of_ble_eq_true rfl) dX1_addKnot_2 (fun H locs hP hD hS => ?_)
  have hP : va_P D vwCl (kr_W1 cy h a 0 N L A) H := hP
  have hD : va_D AA (kr_W1 cy h a 0 N L A) := hD
  refine lv_iload_n hx hb dX1_addKnot_5 rfl (lv_at hl 1 rfl) ?_
  refine lv_iconst (v := 0) hx hb dX1_addKnot_6 (by decide) ?_
  refine lv_iconst (v := 1) hx hb dX1_addKnot_7 (by decide) ?_
  refine kr_sI (n := 3) (As := [.int x, .int 0, .int 1]) (rest := []) ⟨hx, hb, hml, hown, hts⟩ (c_X1_isIn l x 0 1) kg_RX1_41 ⟨rfl, rfl⟩ (by decide +kernel) ⟨Nat.le_of_ble_eq_true rfl, Nat.le_of_ble_eq_true rfl⟩ ⟨kr_blT, fun U hU hW => ⟨rfl, trivial⟩⟩ rfl hl.1 rfl (Nat.le_of_ble_eq_true rfl) dX1_addKnot_8 ⟨Nat.zero_le _, Nat.zero_le _⟩ (fun r9 e9 => ?_)
  subst e9
  refine lv_if_ne (tgt := 20) hx hb dX1_addKnot_11 (by decide) (fun c11 => ?_) (fun c11 => ?_)
  · have hx1 := kr_k01.mp (kr_if1 c11)
    refine lv_iload_n hx hb dX1_addKnot_20 rfl (lv_at hl 2 rfl) ?_
    refine lv_bipush (v := 10) hx hb dX1_addKnot_21 (by decide) ?_
    refine lv_bipush (v := 100) hx hb dX1_addKnot_23 (by decide) ?_
    refine kr_sI (n := 3) (As := [.int y, .int 10, .int 100]) (rest := []) ⟨hx, hb, hml, hown, hts⟩ (c_X1_isIn l y 10 100) kg_RX1_41 ⟨rfl, rfl⟩ (by decide +kernel) ⟨Nat.le_of_ble_eq_true rfl, Nat.le_of_ble_eq_true rfl⟩ ⟨kr_blT, fun U hU hW => ⟨rfl, trivial⟩⟩ rfl hl.1 rfl (Nat.le_of_ble_eq_true rfl) dX1_addKnot_25 ⟨Nat.zero_le _, Nat.zero_le _⟩ (fun r9 e9 => ?_)
    subst e9
    refine lv_if_eq (tgt := 41) hx hb dX1_addKnot_28 (by decide) (fun c28 => ?_) (fun c28 => ?_)
    · rw [kr_cd2 hx1 (fun w => kr_if0 c28 w.1), if_neg kr_20, if_neg kr_20]
      refine lv_aload_n hx hb dX1_addKnot_41 rfl (lv_at hl 0 rfl) ?_
      refine lv_iconst (v := 2) hx hb dX1_addKnot_42 (by decide) ?_
      refine kr_wvI (n := 1) (As := [.int 2]) (rest := []) ⟨hx, hb, hml, hown, hts⟩ (c_X1_no l D cy h a 0 N L A H.size 2) kg_RX1_88 ⟨rfl, rfl⟩ (by decide +kernel) ⟨Nat.le_of_ble_eq_true rfl, Nat.le_of_ble_eq_true rfl⟩ (va_recv hK hP (ci := 1) (q0 := 0) rfl rfl) hP hK hD hS hA rfl hl.1 rfl (Nat.le_of_ble_eq_true rfl) dX1_addKnot_43 ⟨Nat.le_of_ble_eq_true rfl, Nat.le_of_ble_eq_true rfl⟩ (fun r9 u9 H locs e9 hP hD hS => ?_)
      subst e9
      exact kr_wI hx hb hr hlocks hP hK hD hS (fun z => absurd z (by decide)) dX1_addKnot_46
    · refine lv_iload_n hx hb dX1_addKnot_31 rfl (lv_at hl 3 rfl) ?_
      refine lv_iconst (v := 1) hx hb dX1_addKnot_32 (by decide) ?_
      refine lv_bipush (v := 9) hx hb dX1_addKnot_33 (by decide) ?_
      refine kr_sI (n := 3) (As := [.int z, .int 1, .int 9]) (rest := []) ⟨hx, hb, hml, hown, hts⟩ (c_X1_isIn l z 1 9) kg_RX1_41 ⟨rfl, rfl⟩ (by decide +kernel) ⟨Nat.le_of_ble_eq_true rfl, Nat.le_of_ble_eq_true rfl⟩ ⟨kr_blT, fun U hU hW => ⟨rfl, trivial⟩⟩ rfl hl.1 rfl (Nat.le_of_ble_eq_true rfl) dX1_addKnot_35 ⟨Nat.zero_le _, Nat.zero_le _⟩ (fun r9 e9 => ?_)
      subst e9
      refine lv_if_ne (tgt := 47) hx hb dX1_addKnot_38 (by decide) (fun c38 => ?_) (fun c38 => ?_)
      · refine lv_aload_n hx hb dX1_addKnot_47 rfl (lv_at hl 0 rfl) ?_
        refine va_get (ci := 1) (v := .int (nI N)) (C := RX1) (T := TX1) (N := 11) hx hb hts kr_wsX1 hown hK hP 0 rfl rfl 1 (by decide) (hts _ kq_543) (fun _ h9 => h9) rfl dX1_addKnot_48 ?_
        refine lv_bipush (v := 16) hx hb dX1_addKnot_51 (by decide) ?_
        refine lv_icmp_ne (tgt := 62) hx hb dX1_addKnot_53 (by decide) (fun c53 => ?_) (fun c53 => ?_)
        · have h16 : N < 16 := by have h9 : ¬ N = 16 := fun w => c53 (by rw [w]; rfl); omega
          rw [kr_cd0 hx1 ⟨kr_if1 c28, kr_if1 c38⟩ h16, if_pos rfl, if_pos rfl]
          refine lv_aload_n hx hb dX1_addKnot_62 rfl (lv_at hl 0 rfl) ?_
          refine va_get (ci := 1) (v := .ref (a 0)) (C := RX1) (T := TX1) (N := 11) hx hb hts kr_wsX1 hown hK hP 0 rfl rfl 2 (by decide) (hts _ kq_544) (fun _ h9 => h9) rfl dX1_addKnot_63 ?_
          refine lv_aload_n hx hb dX1_addKnot_66 rfl (lv_at hl 0 rfl) ?_
          refine va_get (ci := 1) (v := .int (nI N)) (C := RX1) (T := TX1) (N := 11) hx hb hts kr_wsX1 hown hK hP 0 rfl rfl 1 (by decide) (hts _ kq_543) (fun _ h9 => h9) rfl dX1_addKnot_67 ?_
          refine lv_iload_n hx hb dX1_addKnot_70 rfl (lv_at hl 1 rfl) ?_
          refine kr_ast hx hb hK hP hD hS 1 0 rfl rfl N (by omega) (by decide) dX1_addKnot_71 (fun H locs hP hD hS => ?_)
          have hP : va_P D vwCl (kr_W1 cy h a 0 N L (kr_up A 0 (upd (A 0) N x))) H := hP
          have hD : va_D AA (kr_W1 cy h a 0 N L (kr_up A 0 (upd (A 0) N x))) := hD
          refine lv_aload_n hx hb dX1_addKnot_72 rfl (lv_at hl 0 rfl) ?_
          refine va_get (ci := 1) (v := .ref (a 1)) (C := RX1) (T := TX1) (N := 11) hx hb hts kr_wsX1 hown hK hP 0 rfl rfl 3 (by decide) (hts _ kq_545) (fun _ h9 => h9) rfl dX1_addKnot_73 ?_
          refine lv_aload_n hx hb dX1_addKnot_76 rfl (lv_at hl 0 rfl) ?_
          refine va_get (ci := 1) (v := .int (nI N)) (C := RX1) (T := TX1) (N := 11) hx hb hts kr_wsX1 hown hK hP 0 rfl rfl 1 (by decide) (hts _ kq_543) (fun _ h9 => h9) rfl dX1_addKnot_77 ?_
          refine lv_iload_n hx hb dX1_addKnot_80 rfl (lv_at hl 2 rfl) ?_
          refine kr_ast hx hb hK hP hD hS 2 0 rfl rfl N (by omega) (by decide) dX1_addKnot_81 (fun H locs hP hD hS => ?_)
          have hP : va_P D vwCl (kr_W1 cy h a 0 N L (kr_up (kr_up A 0 (upd (A 0) N x)) 1 (upd (A 1) N y))) H := hP
          have hD : va_D AA (kr_W1 cy h a 0 N L (kr_up (kr_up A 0 (upd (A 0) N x)) 1 (upd (A 1) N y))) := hD
          refine lv_aload_n hx hb dX1_addKnot_82 rfl (lv_at hl 0 rfl) ?_
          refine va_get (ci := 1) (v := .ref (a 2)) (C := RX1) (T := TX1) (N := 11) hx hb hts kr_wsX1 hown hK hP 0 rfl rfl 4 (by decide) (hts _ kq_546) (fun _ h9 => h9) rfl dX1_addKnot_83 ?_
          refine lv_aload_n hx hb dX1_addKnot_86 rfl (lv_at hl 0 rfl) ?_
          refine va_get (ci := 1) (v := .int (nI N)) (C := RX1) (T := TX1) (N := 11) hx hb hts kr_wsX1 hown hK hP 0 rfl rfl 1 (by decide) (hts _ kq_543) (fun _ h9 => h9) rfl dX1_addKnot_87 ?_
          refine lv_iload_n hx hb dX1_addKnot_90 rfl (lv_at hl 3 rfl) ?_
          refine kr_ast hx hb hK hP hD hS 3 0 rfl rfl N (by omega) (by decide) dX1_addKnot_91 (fun H locs hP hD hS => ?_)
          have hP : va_P D vwCl (kr_W1 cy h a 0 N L (kr_up (kr_up (kr_up A 0 (upd (A 0) N x)) 1 (upd (A 1) N y)) 2 (upd (A 2) N z))) H := hP
          have hD : va_D AA (kr_W1 cy h a 0 N L (kr_up (kr_up (kr_up A 0 (upd (A 0) N x)) 1 (upd (A 1) N y)) 2 (upd (A 2) N z))) := hD
          refine lv_aload_n hx hb dX1_addKnot_92 rfl (lv_at hl 0 rfl) ?_
          refine va_get (ci := 1) (v := .ref (a 3)) (C := RX1) (T := TX1) (N := 11) hx hb hts kr_wsX1 hown hK hP 0 rfl rfl 5 (by decide) (hts _ kq_547) (fun _ h9 => h9) rfl dX1_addKnot_93 ?_
          refine lv_aload_n hx hb dX1_addKnot_96 rfl (lv_at hl 0 rfl) ?_
          refine va_get (ci := 1) (v := .int (nI N)) (C := RX1) (T := TX1) (N := 11) hx hb hts kr_wsX1 hown hK hP 0 rfl rfl 1 (by decide) (hts _ kq_543) (fun _ h9 => h9) rfl dX1_addKnot_97 ?_
          refine lv_iconst (v := 0) hx hb dX1_addKnot_100 (by decide) ?_
          refine kr_ast hx hb hK hP hD hS 4 0 rfl rfl N (by omega) (by decide) dX1_addKnot_101 (fun H locs hP hD hS => ?_)
          have hP : va_P D vwCl (kr_W1 cy h a 0 N L (kr_up (kr_up (kr_up (kr_up A 0 (upd (A 0) N x)) 1 (upd (A 1) N y)) 2 (upd (A 2) N z)) 3 (upd (A 3) N 0))) H := hP
          have hD : va_D AA (kr_W1 cy h a 0 N L (kr_up (kr_up (kr_up (kr_up A 0 (upd (A 0) N x)) 1 (upd (A 1) N y)) 2 (upd (A 2) N z)) 3 (upd (A 3) N 0))) := hD
          refine lv_aload_n hx hb dX1_addKnot_102 rfl (lv_at hl 0 rfl) ?_
          refine va_get (ci := 1) (v := .ref (a 4)) (C := RX1) (T := TX1) (N := 11) hx hb hts kr_wsX1 hown hK hP 0 rfl rfl 6 (by decide) (hts _ kq_548) (fun _ h9 => h9) rfl dX1_addKnot_103 ?_
          refine lv_aload_n hx hb dX1_addKnot_106 rfl (lv_at hl 0 rfl) ?_
          refine va_get (ci := 1) (v := .int (nI N)) (C := RX1) (T := TX1) (N := 11) hx hb hts kr_wsX1 hown hK hP 0 rfl rfl 1 (by decide) (hts _ kq_543) (fun _ h9 => h9) rfl dX1_addKnot_107 ?_
          refine lv_iconst (v := -1) hx hb dX1_addKnot_110 (by decide) ?_
          refine kr_ast hx hb hK hP hD hS 5 0 rfl rfl N (by omega) (by decide) dX1_addKnot_111 (fun H locs hP hD hS => ?_)
          have hP : va_P D vwCl (kr_W1 cy h a 0 N L (kr_up (kr_up (kr_up (kr_up (kr_up A 0 (upd (A 0) N x)) 1 (upd (A 1) N y)) 2 (upd (A 2) N z)) 3 (upd (A 3) N 0)) 4 (upd (A 4) N (-1)))) H := hP
          have hD : va_D AA (kr_W1 cy h a 0 N L (kr_up (kr_up (kr_up (kr_up (kr_up A 0 (upd (A 0) N x)) 1 (upd (A 1) N y)) 2 (upd (A 2) N z)) 3 (upd (A 3) N 0)) 4 (upd (A 4) N (-1)))) := hD
          refine lv_aload_n hx hb dX1_addKnot_112 rfl (lv_at hl 0 rfl) ?_
          refine lv_dup hx hb dX1_addKnot_113 rfl ?_
          refine va_get (ci := 1) (v := .int (nI N)) (C := RX1) (T := TX1) (N := 11) hx hb hts kr_wsX1 hown hK hP 0 rfl rfl 1 (by decide) (hts _ kq_543) (fun _ h9 => h9) rfl dX1_addKnot_114 ?_
          refine lv_iconst (v := 1) hx hb dX1_addKnot_117 (by decide) ?_
          refine kr_iaddN hx hb N 1 dX1_addKnot_118 ?_
          refine va_put (ci := 1) (v := .int (nI (N + 1))) (ty := .int) (C := RX1) (T := TX1) (N := 11) hx hb hts kr_wsX1 tyX1 tyX1_ok nmX1 hown hK hP hD hS 0 rfl rfl 1 (by decide) (hts _ kq_543) (fun _ h9 => h9) rfl (by decide +kernel) rfl rfl (Nat.le_of_ble_eq_true rfl) dX1_addKnot_119 (fun H locs hP hD hS => ?_)
          have hP : va_P D vwCl (kr_W1 cy h a 0 (N + 1) L (kr_up (kr_up (kr_up (kr_up (kr_up A 0 (upd (A 0) N x)) 1 (upd (A 1) N y)) 2 (upd (A 2) N z)) 3 (upd (A 3) N 0)) 4 (upd (A 4) N (-1)))) H := hP
          have hD : va_D AA (kr_W1 cy h a 0 (N + 1) L (kr_up (kr_up (kr_up (kr_up (kr_up A 0 (upd (A 0) N x)) 1 (upd (A 1) N y)) 2 (upd (A 2) N z)) 3 (upd (A 3) N 0)) 4 (upd (A 4) N (-1)))) := hD
          refine lv_aload_n hx hb dX1_addKnot_122 rfl (lv_at hl 0 rfl) ?_
          refine va_get (ci := 1) (v := .int (nI (N + 1))) (C := RX1) (T := TX1) (N := 11) hx hb hts kr_wsX1 hown hK hP 0 rfl rfl 1 (by decide) (hts _ kq_543) (fun _ h9 => h9) rfl dX1_addKnot_123 ?_
          refine lv_iconst (v := 1) hx hb dX1_addKnot_126 (by decide) ?_
          refine kr_isubN hx hb (N + 1) 1 (by omega) dX1_addKnot_127 ?_
          exact kr_wI hx hb hr hlocks hP hK hD hS (fun _ => rfl) dX1_addKnot_128
        · rw [kr_cd3 hx1 ⟨kr_if1 c28, kr_if1 c38⟩ (by have := (nI_eq (a := N) (b := 16) (by omega) (by decide)).mp c53; omega), if_neg kr_30, if_neg kr_30]
          refine lv_aload_n hx hb dX1_addKnot_56 rfl (lv_at hl 0 rfl) ?_
          refine lv_iconst (v := 3) hx hb dX1_addKnot_57 (by decide) ?_
          refine kr_wvI (n := 1) (As := [.int 3]) (rest := []) ⟨hx, hb, hml, hown, hts⟩ (c_X1_no l D cy h a 0 N L A H.size 3) kg_RX1_88 ⟨rfl, rfl⟩ (by decide +kernel) ⟨Nat.le_of_ble_eq_true rfl, Nat.le_of_ble_eq_true rfl⟩ (va_recv hK hP (ci := 1) (q0 := 0) rfl rfl) hP hK hD hS hA rfl hl.1 rfl (Nat.le_of_ble_eq_true rfl) dX1_addKnot_58 ⟨Nat.le_of_ble_eq_true rfl, Nat.le_of_ble_eq_true rfl⟩ (fun r9 u9 H locs e9 hP hD hS => ?_)
          subst e9
          exact kr_wI hx hb hr hlocks hP hK hD hS (fun z => absurd z (by decide)) dX1_addKnot_61
      · rw [kr_cd2 hx1 (fun w => kr_if0 c38 w.2), if_neg kr_20, if_neg kr_20]
        refine lv_aload_n hx hb dX1_addKnot_41 rfl (lv_at hl 0 rfl) ?_
        refine lv_iconst (v := 2) hx hb dX1_addKnot_42 (by decide) ?_
        refine kr_wvI (n := 1) (As := [.int 2]) (rest := []) ⟨hx, hb, hml, hown, hts⟩ (c_X1_no l D cy h a 0 N L A H.size 2) kg_RX1_88 ⟨rfl, rfl⟩ (by decide +kernel) ⟨Nat.le_of_ble_eq_true rfl, Nat.le_of_ble_eq_true rfl⟩ (va_recv hK hP (ci := 1) (q0 := 0) rfl rfl) hP hK hD hS hA rfl hl.1 rfl (Nat.le_of_ble_eq_true rfl) dX1_addKnot_43 ⟨Nat.le_of_ble_eq_true rfl, Nat.le_of_ble_eq_true rfl⟩ (fun r9 u9 H locs e9 hP hD hS => ?_)
        subst e9
        exact kr_wI hx hb hr hlocks hP hK hD hS (fun z => absurd z (by decide)) dX1_addKnot_46
  · rw [kr_cd1 (fun w => kr_if0 c11 (kr_k01.mpr w)), if_neg kr_10, if_neg kr_10]
    refine lv_aload_n hx hb dX1_addKnot_14 rfl (lv_at hl 0 rfl) ?_
    refine lv_iconst (v := 1) hx hb dX1_addKnot_15 (by decide) ?_
    refine kr_wvI (n := 1) (As := [.int 1]) (rest := []) ⟨hx, hb, hml, hown, hts⟩ (c_X1_no l D cy h a 0 N L A H.size 1) kg_RX1_88 ⟨rfl, rfl⟩ (by decide +kernel) ⟨Nat.le_of_ble_eq_true rfl, Nat.le_of_ble_eq_true rfl⟩ (va_recv hK hP (ci := 1) (q0 := 0) rfl rfl) hP hK hD hS hA rfl hl.1 rfl (Nat.le_of_ble_eq_true rfl) dX1_addKnot_16 ⟨Nat.le_of_ble_eq_true rfl, Nat.le_of_ble_eq_true rfl⟩ (fun r9 u9 H locs e9 hP hD hS => ?_)
    subst e9
    exact kr_wI hx hb hr hlocks hP hK hD hS (fun z => absurd z (by decide)) dX1_addKnot_19
set_option maxHeartbeats 4000000 in
set_option maxRecDepth 100000 in
theorem c_X1_setSpill (l : Launch) (D : va_G) (cy : ClassId) (h : Nat) (a : Nat → Nat) (th : Int32) (N L : Nat) (A : Nat → Nat → Int32) (sz : Nat) (x y z : Int32) (hw : kr_wf N L A) : Met l yX1_setSpill (Cond.code yX1_setSpill cX1_setSpill 5 (some .int) :: kr_all) ({ frames := 2, cells := 0, slots := 0, locals := 43 }) (va_Pc [.ref h, .int x, .int y, .int z] (kr_Rw D (kr_W1 cy h a th N L A) cy sz)) (va_Qi (fun r (_ : Unit) => kr_cd (kr_i N x) (kr_o y ∧ (¬ z < -1 ∧ z < x) ∧ (z = -1 ∨ A 0 (kr_ix z) = A 0 (kr_ix x))) True = 0 → r = A 3 (kr_ix x)) (fun _ t => kr_Rq D (kr_W1 cy h a (kr_cd (kr_i N x) (kr_o y ∧ (¬ z < -1 ∧ z < x) ∧ (z = -1 ∨ A 0 (kr_ix z) = A 0 (kr_ix x))) True) N L (if kr_cd (kr_i N x) (kr_o y ∧ (¬ z < -1 ∧ z < x) ∧ (z = -1 ∨ A 0 (kr_ix z) = A 0 (kr_ix x))) True = 0 then kr_sA A (kr_ix x) y z else A)) cy (va_A (kr_W1 cy h a th N L A) sz) t) (va_A (kr_W1 cy h a th N L A) sz)) 0 0 (va_A (kr_W1 cy h a th N L A) sz) := by
  refine kr_ofw (Qc := fun AA => va_Qi (fun r (_ : Unit) => kr_cd (kr_i N x) (kr_o y ∧ (¬ z < -1 ∧ z < x) ∧ (z = -1 ∨ A 0 (kr_ix z) = A 0 (kr_ix x))) True = 0 → r = A 3 (kr_ix x)) (fun _ t => kr_Rq D (kr_W1 cy h a (kr_cd (kr_i N x) (kr_o y ∧ (¬ z < -1 ∧ z < x) ∧ (z = -1 ∨ A 0 (kr_ix z) = A 0 (kr_ix x))) True) N L (if kr_cd (kr_i N x) (kr_o y ∧ (¬ z < -1 ∧ z < x) ∧ (z = -1 ∨ A 0 (kr_ix z) = A 0 (kr_ix x))) True = 0 then kr_sA A (kr_ix x) y z else A)) cy AA t) AA) (by decide) (Nat.le_of_ble_eq_true rfl) ?_
  intro p e s m below meth c ls AA hx hb hml hr hts hown hlocks hin hA hP hK hD hS hl
  have hown : s.vm.findClass RX1 = some m.cls := hown
  have hl : lv_has ls 5 [(0, .ref h), (1, .int x), (2, .int y), (3, .int z)] := hl
  have hN := hw.1
  refine lv_aload_n hx hb dX1_setSpill_0 rfl (lv_at hl 0 rfl) ?_
  refine lv_iconst (v := 0) hx hb dX1_setSpill_1 (by decide) ?_
  refine va_put (ci := 1) (v := .int 0) (ty := .int) (C := RX1) (T := TX1) (N := 11) hx hb hts kr_wsX1 tyX1 tyX1_ok nmX1 hown hK hP hD hS 0 rfl rfl 0 (by decide) (hts _ kq_542) (fun _ h9 => h9) rfl (by decide +kernel) rfl rfl (Nat.le_of_ble_eq_true rfl) dX1_setSpill_2 (fun H locs hP hD hS => ?_)
  have hP : va_P D vwCl (kr_W1 cy h a 0 N L A) H := hP
  have hD : va_D AA (kr_W1 cy h a 0 N L A) := hD
  refine lv_aload_n hx hb dX1_setSpill_5 rfl (lv_at hl 0 rfl) ?_
  refine lv_iload_n hx hb dX1_setSpill_6 rfl (lv_at hl 1 rfl) ?_
  refine kr_vI (n := 1) (As := [.int x]) (rest := []) ⟨hx, hb, hml, hown, hts⟩ (c_X1_isKnot l D cy h a 0 N L A x (by omega)) kg_RX1_91 ⟨rfl, rfl⟩ (by decide +kernel) ⟨Nat.le_of_ble_eq_true rfl, Nat.le_of_ble_eq_true rfl⟩ (kr_pv1 hP hK) rfl hl.1 rfl (Nat.le_of_ble_eq_true rfl) dX1_setSpill_7 ⟨Nat.zero_le _, Nat.zero_le _⟩ (fun r9 e9 => ?_)
  subst e9
  refine lv_if_ne (tgt := 19) hx hb dX1_setSpill_10 (by decide) (fun c10 => ?_) (fun c10 => ?_)
  · have hk := kr_if1 c10
    obtain ⟨k, hk2, rfl⟩ := kr_inN hN hk
    rw [show kr_ix (nI k) = k from kr_ix_nI (by omega)]
    refine lv_iload_n hx hb dX1_setSpill_19 rfl (lv_at hl 2 rfl) ?_
    refine kr_sI (n := 1) (As := [.int y]) (rest := []) ⟨hx, hb, hml, hown, hts⟩ (c_X1_isLoad l y) kg_RX1_94 ⟨rfl, rfl⟩ (by decide +kernel) ⟨Nat.le_of_ble_eq_true rfl, Nat.le_of_ble_eq_true rfl⟩ ⟨kr_blT, fun U hU hW => ⟨rfl, trivial⟩⟩ rfl hl.1 rfl (Nat.le_of_ble_eq_true rfl) dX1_setSpill_20 ⟨Nat.zero_le _, Nat.zero_le _⟩ (fun r9 e9 => ?_)
    subst e9
    refine lv_if_eq (tgt := 57) hx hb dX1_setSpill_23 (by decide) (fun c23 => ?_) (fun c23 => ?_)
    · rw [kr_cd2 hk (fun w => kr_if0 c23 w.1), if_neg kr_20]
      refine lv_aload_n hx hb dX1_setSpill_57 rfl (lv_at hl 0 rfl) ?_
      refine lv_iconst (v := 2) hx hb dX1_setSpill_58 (by decide) ?_
      refine kr_wvI (n := 1) (As := [.int 2]) (rest := []) ⟨hx, hb, hml, hown, hts⟩ (c_X1_no l D cy h a 0 N L A H.size 2) kg_RX1_88 ⟨rfl, rfl⟩ (by decide +kernel) ⟨Nat.le_of_ble_eq_true rfl, Nat.le_of_ble_eq_true rfl⟩ (va_recv hK hP (ci := 1) (q0 := 0) rfl rfl) hP hK hD hS hA rfl hl.1 rfl (Nat.le_of_ble_eq_true rfl) dX1_setSpill_59 ⟨Nat.le_of_ble_eq_true rfl, Nat.le_of_ble_eq_true rfl⟩ (fun r9 u9 H locs e9 hP hD hS => ?_)
      subst e9
      exact kr_wI hx hb hr hlocks hP hK hD hS (fun z => absurd z (by decide)) dX1_setSpill_62
    · refine lv_iload_n hx hb dX1_setSpill_26 rfl (lv_at hl 3 rfl) ?_
      refine lv_iconst (v := -1) hx hb dX1_setSpill_27 (by decide) ?_
      refine lv_iload_n hx hb dX1_setSpill_28 rfl (lv_at hl 1 rfl) ?_
      refine lv_iconst (v := 1) hx hb dX1_setSpill_29 (by decide) ?_
      refine lv_isub hx hb dX1_setSpill_30 ?_
      refine kr_sI (n := 3) (As := [.int z, .int (-1), .int ((nI k) - 1)]) (rest := []) ⟨hx, hb, hml, hown, hts⟩ (c_X1_isIn l z (-1) ((nI k) - 1)) kg_RX1_41 ⟨rfl, rfl⟩ (by decide +kernel) ⟨Nat.le_of_ble_eq_true rfl, Nat.le_of_ble_eq_true rfl⟩ ⟨kr_blT, fun U hU hW => ⟨rfl, trivial⟩⟩ rfl hl.1 rfl (Nat.le_of_ble_eq_true rfl) dX1_setSpill_31 ⟨Nat.zero_le _, Nat.zero_le _⟩ (fun r9 e9 => ?_)
      subst e9
      refine lv_if_eq (tgt := 57) hx hb dX1_setSpill_34 (by decide) (fun c34 => ?_) (fun c34 => ?_)
      · rw [kr_cd2 hk (fun w => kr_if0 c34 ⟨w.2.1.1, fun v => absurd w.2.1.2 (kr_ngt2 ((kr_pred (by omega)).mp v))⟩), if_neg kr_20]
        refine lv_aload_n hx hb dX1_setSpill_57 rfl (lv_at hl 0 rfl) ?_
        refine lv_iconst (v := 2) hx hb dX1_setSpill_58 (by decide) ?_
        refine kr_wvI (n := 1) (As := [.int 2]) (rest := []) ⟨hx, hb, hml, hown, hts⟩ (c_X1_no l D cy h a 0 N L A H.size 2) kg_RX1_88 ⟨rfl, rfl⟩ (by decide +kernel) ⟨Nat.le_of_ble_eq_true rfl, Nat.le_of_ble_eq_true rfl⟩ (va_recv hK hP (ci := 1) (q0 := 0) rfl rfl) hP hK hD hS hA rfl hl.1 rfl (Nat.le_of_ble_eq_true rfl) dX1_setSpill_59 ⟨Nat.le_of_ble_eq_true rfl, Nat.le_of_ble_eq_true rfl⟩ (fun r9 u9 H locs e9 hP hD hS => ?_)
        subst e9
        exact kr_wI hx hb hr hlocks hP hK hD hS (fun z => absurd z (by decide)) dX1_setSpill_62
      · have hz1 : ¬ z < -1 ∧ z < nI k := ⟨(kr_if1 c34).1, kr_nle2 (fun w => (kr_if1 c34).2 ((kr_pred (by omega)).mpr w))⟩
        refine lv_iload_n hx hb dX1_setSpill_37 rfl (lv_at hl 3 rfl) ?_
        refine lv_iconst (v := -1) hx hb dX1_setSpill_38 (by decide) ?_
        refine lv_icmp_eq (tgt := 63) hx hb dX1_setSpill_39 (by decide) (fun c39 => ?_) (fun c39 => ?_)
        · rw [kr_cd0 hk ⟨kr_if1 c23, hz1, Or.inl c39⟩ trivial, if_pos rfl]
          refine lv_aload_n hx hb dX1_setSpill_63 rfl (lv_at hl 0 rfl) ?_
          refine va_get (ci := 1) (v := .ref (a 3)) (C := RX1) (T := TX1) (N := 11) hx hb hts kr_wsX1 hown hK hP 0 rfl rfl 5 (by decide) (hts _ kq_547) (fun _ h9 => h9) rfl dX1_setSpill_64 ?_
          refine lv_iload_n hx hb dX1_setSpill_67 rfl (lv_at hl 1 rfl) ?_
          refine kr_ald hx hb hK hP 4 0 rfl rfl k (by omega) (by decide) dX1_setSpill_68 ?_
          refine lv_istore (lv' := [(4, .int (A 3 k)), (0, .ref h), (1, .int (nI k)), (2, .int y), (3, .int z)]) hx hb dX1_setSpill_69 hl (by decide) rfl (fun ls hl => ?_)
          refine lv_aload_n hx hb dX1_setSpill_71 rfl (lv_at hl 1 rfl) ?_
          refine va_get (ci := 1) (v := .ref (a 3)) (C := RX1) (T := TX1) (N := 11) hx hb hts kr_wsX1 hown hK hP 0 rfl rfl 5 (by decide) (hts _ kq_547) (fun _ h9 => h9) rfl dX1_setSpill_72 ?_
          refine lv_iload_n hx hb dX1_setSpill_75 rfl (lv_at hl 2 rfl) ?_
          refine lv_iload_n hx hb dX1_setSpill_76 rfl (lv_at hl 3 rfl) ?_
          refine kr_ast hx hb hK hP hD hS 4 0 rfl rfl k (by omega) (by decide) dX1_setSpill_77 (fun H locs hP hD hS => ?_)
          have hP : va_P D vwCl (kr_W1 cy h a 0 N L (kr_up A 3 (upd (A 3) k y))) H := hP
          have hD : va_D AA (kr_W1 cy h a 0 N L (kr_up A 3 (upd (A 3) k y))) := hD
          refine lv_aload_n hx hb dX1_setSpill_78 rfl (lv_at hl 1 rfl) ?_
          refine va_get (ci := 1) (v := .ref (a 4)) (C := RX1) (T := TX1) (N := 11) hx hb hts kr_wsX1 hown hK hP 0 rfl rfl 6 (by decide) (hts _ kq_548) (fun _ h9 => h9) rfl dX1_setSpill_79 ?_
          refine lv_iload_n hx hb dX1_setSpill_82 rfl (lv_at hl 2 rfl) ?_
          refine lv_iload_n hx hb dX1_setSpill_83 rfl (lv_at hl 4 rfl) ?_
          refine kr_ast hx hb hK hP hD hS 5 0 rfl rfl k (by omega) (by decide) dX1_setSpill_84 (fun H locs hP hD hS => ?_)
          have hP : va_P D vwCl (kr_W1 cy h a 0 N L (kr_up (kr_up A 3 (upd (A 3) k y)) 4 (upd (A 4) k z))) H := hP
          have hD : va_D AA (kr_W1 cy h a 0 N L (kr_up (kr_up A 3 (upd (A 3) k y)) 4 (upd (A 4) k z))) := hD
          refine lv_iload hx hb dX1_setSpill_85 (lv_at hl 0 rfl) ?_
          exact kr_wI hx hb hr hlocks hP hK hD hS (fun _ => rfl) dX1_setSpill_87
        · obtain ⟨j, hj, rfl⟩ := kr_inS (by omega) hz1.1 hz1.2 c39
          rw [show kr_ix (nI j) = j from kr_ix_nI (by omega)]
          refine lv_aload_n hx hb dX1_setSpill_42 rfl (lv_at hl 0 rfl) ?_
          refine va_get (ci := 1) (v := .ref (a 0)) (C := RX1) (T := TX1) (N := 11) hx hb hts kr_wsX1 hown hK hP 0 rfl rfl 2 (by decide) (hts _ kq_544) (fun _ h9 => h9) rfl dX1_setSpill_43 ?_
          refine lv_iload_n hx hb dX1_setSpill_46 rfl (lv_at hl 3 rfl) ?_
          refine kr_ald hx hb hK hP 1 0 rfl rfl j (by omega) (by decide) dX1_setSpill_47 ?_
          refine lv_aload_n hx hb dX1_setSpill_48 rfl (lv_at hl 0 rfl) ?_
          refine va_get (ci := 1) (v := .ref (a 0)) (C := RX1) (T := TX1) (N := 11) hx hb hts kr_wsX1 hown hK hP 0 rfl rfl 2 (by decide) (hts _ kq_544) (fun _ h9 => h9) rfl dX1_setSpill_49 ?_
          refine lv_iload_n hx hb dX1_setSpill_52 rfl (lv_at hl 1 rfl) ?_
          refine kr_ald hx hb hK hP 1 0 rfl rfl k (by omega) (by decide) dX1_setSpill_53 ?_
          refine lv_icmp_eq (tgt := 63) hx hb dX1_setSpill_54 (by decide) (fun c54 => ?_) (fun c54 => ?_)
          · rw [kr_cd0 hk ⟨kr_if1 c23, hz1, Or.inr c54⟩ trivial, if_pos rfl]
            refine lv_aload_n hx hb dX1_setSpill_63 rfl (lv_at hl 0 rfl) ?_
            refine va_get (ci := 1) (v := .ref (a 3)) (C := RX1) (T := TX1) (N := 11) hx hb hts kr_wsX1 hown hK hP 0 rfl rfl 5 (by decide) (hts _ kq_547) (fun _ h9 => h9) rfl dX1_setSpill_64 ?_
            refine lv_iload_n hx hb dX1_setSpill_67 rfl (lv_at hl 1 rfl) ?_
            refine kr_ald hx hb hK hP 4 0 rfl rfl k (by omega) (by decide) dX1_setSpill_68 ?_
            refine lv_istore (lv' := [(4, .int (A 3 k)), (0, .ref h), (1, .int (nI k)), (2, .int y), (3, .int (nI j))]) hx hb dX1_setSpill_69 hl (by decide) rfl (fun ls hl => ?_)
            refine lv_aload_n hx hb dX1_setSpill_71 rfl (lv_at hl 1 rfl) ?_
            refine va_get (ci := 1) (v := .ref (a 3)) (C := RX1) (T := TX1) (N := 11) hx hb hts kr_wsX1 hown hK hP 0 rfl rfl 5 (by decide) (hts _ kq_547) (fun _ h9 => h9) rfl dX1_setSpill_72 ?_
            refine lv_iload_n hx hb dX1_setSpill_75 rfl (lv_at hl 2 rfl) ?_
            refine lv_iload_n hx hb dX1_setSpill_76 rfl (lv_at hl 3 rfl) ?_
            refine kr_ast hx hb hK hP hD hS 4 0 rfl rfl k (by omega) (by decide) dX1_setSpill_77 (fun H locs hP hD hS => ?_)
            have hP : va_P D vwCl (kr_W1 cy h a 0 N L (kr_up A 3 (upd (A 3) k y))) H := hP
            have hD : va_D AA (kr_W1 cy h a 0 N L (kr_up A 3 (upd (A 3) k y))) := hD
            refine lv_aload_n hx hb dX1_setSpill_78 rfl (lv_at hl 1 rfl) ?_
            refine va_get (ci := 1) (v := .ref (a 4)) (C := RX1) (T := TX1) (N := 11) hx hb hts kr_wsX1 hown hK hP 0 rfl rfl 6 (by decide) (hts _ kq_548) (fun _ h9 => h9) rfl dX1_setSpill_79 ?_
            refine lv_iload_n hx hb dX1_setSpill_82 rfl (lv_at hl 2 rfl) ?_
            refine lv_iload_n hx hb dX1_setSpill_83 rfl (lv_at hl 4 rfl) ?_
            refine kr_ast hx hb hK hP hD hS 5 0 rfl rfl k (by omega) (by decide) dX1_setSpill_84 (fun H locs hP hD hS => ?_)
            have hP : va_P D vwCl (kr_W1 cy h a 0 N L (kr_up (kr_up A 3 (upd (A 3) k y)) 4 (upd (A 4) k (nI j)))) H := hP
            have hD : va_D AA (kr_W1 cy h a 0 N L (kr_up (kr_up A 3 (upd (A 3) k y)) 4 (upd (A 4) k (nI j)))) := hD
            refine lv_iload hx hb dX1_setSpill_85 (lv_at hl 0 rfl) ?_
            exact kr_wI hx hb hr hlocks hP hK hD hS (fun _ => rfl) dX1_setSpill_87
          · rw [kr_cd2 hk (fun w => w.2.2.elim c39 c54), if_neg kr_20]
            refine lv_aload_n hx hb dX1_setSpill_57 rfl (lv_at hl 0 rfl) ?_
            refine lv_iconst (v := 2) hx hb dX1_setSpill_58 (by decide) ?_
            refine kr_wvI (n := 1) (As := [.int 2]) (rest := []) ⟨hx, hb, hml, hown, hts⟩ (c_X1_no l D cy h a 0 N L A H.size 2) kg_RX1_88 ⟨rfl, rfl⟩ (by decide +kernel) ⟨Nat.le_of_ble_eq_true rfl, Nat.le_of_ble_eq_true rfl⟩ (va_recv hK hP (ci := 1) (q0 := 0) rfl rfl) hP hK hD hS hA rfl hl.1 rfl (Nat.le_of_ble_eq_true rfl) dX1_setSpill_59 ⟨Nat.le_of_ble_eq_true rfl, Nat.le_of_ble_eq_true rfl⟩ (fun r9 u9 H locs e9 hP hD hS => ?_)
            subst e9
            exact kr_wI hx hb hr hlocks hP hK hD hS (fun z => absurd z (by decide)) dX1_setSpill_62
  · rw [kr_cd1 (kr_if0 c10), if_neg kr_10]
    refine lv_aload_n hx hb dX1_setSpill_13 rfl (lv_at hl 0 rfl) ?_
    refine lv_iconst (v := 1) hx hb dX1_setSpill_14 (by decide) ?_
    refine kr_wvI (n := 1) (As := [.int 1]) (rest := []) ⟨hx, hb, hml, hown, hts⟩ (c_X1_no l D cy h a 0 N L A H.size 1) kg_RX1_88 ⟨rfl, rfl⟩ (by decide +kernel) ⟨Nat.le_of_ble_eq_true rfl, Nat.le_of_ble_eq_true rfl⟩ (va_recv hK hP (ci := 1) (q0 := 0) rfl rfl) hP hK hD hS hA rfl hl.1 rfl (Nat.le_of_ble_eq_true rfl) dX1_setSpill_15 ⟨Nat.le_of_ble_eq_true rfl, Nat.le_of_ble_eq_true rfl⟩ (fun r9 u9 H locs e9 hP hD hS => ?_)
    subst e9
    exact kr_wI hx hb hr hlocks hP hK hD hS (fun z => absurd z (by decide)) dX1_setSpill_18
set_option maxHeartbeats 4000000 in
set_option maxRecDepth 100000 in
theorem c_X1_tie (l : Launch) (D : va_G) (cy : ClassId) (h : Nat) (a : Nat → Nat) (th : Int32) (N L : Nat) (A : Nat → Nat → Int32) (sz : Nat) (x y : Int32) (hw : kr_wf N L A) : Met l yX1_tie (Cond.code yX1_tie cX1_tie 3 (some .int) :: kr_all) ({ frames := 2, cells := 0, slots := 0, locals := 43 }) (va_Pc [.ref h, .int x, .int y] (kr_Rw D (kr_W1 cy h a th N L A) cy sz)) (va_Qi (fun r (_ : Unit) => kr_cd (kr_i N x) (A 0 (kr_ix x) = 1 ∧ kr_o y) (L < 6) = 0 → r = nI L) (fun _ t => kr_Rq D (kr_W1 cy h a (kr_cd (kr_i N x) (A 0 (kr_ix x) = 1 ∧ kr_o y) (L < 6)) N (if kr_cd (kr_i N x) (A 0 (kr_ix x) = 1 ∧ kr_o y) (L < 6) = 0 then L + 1 else L) (if kr_cd (kr_i N x) (A 0 (kr_ix x) = 1 ∧ kr_o y) (L < 6) = 0 then kr_tA A L (kr_ix x) y else A)) cy (va_A (kr_W1 cy h a th N L A) sz) t) (va_A (kr_W1 cy h a th N L A) sz)) 0 0 (va_A (kr_W1 cy h a th N L A) sz) := by
  refine kr_ofw (Qc := fun AA => va_Qi (fun r (_ : Unit) => kr_cd (kr_i N x) (A 0 (kr_ix x) = 1 ∧ kr_o y) (L < 6) = 0 → r = nI L) (fun _ t => kr_Rq D (kr_W1 cy h a (kr_cd (kr_i N x) (A 0 (kr_ix x) = 1 ∧ kr_o y) (L < 6)) N (if kr_cd (kr_i N x) (A 0 (kr_ix x) = 1 ∧ kr_o y) (L < 6) = 0 then L + 1 else L) (if kr_cd (kr_i N x) (A 0 (kr_ix x) = 1 ∧ kr_o y) (L < 6) = 0 then kr_tA A L (kr_ix x) y else A)) cy AA t) AA) (by decide) (Nat.le_of_ble_eq_true rfl) ?_
  intro p e s m below meth c ls AA hx hb hml hr hts hown hlocks hin hA hP hK hD hS hl
  have hown : s.vm.findClass RX1 = some m.cls := hown
  have hl : lv_has ls 3 [(0, .ref h), (1, .int x), (2, .int y)] := hl
  have hN := hw.1
  have hL := hw.2.1
  refine lv_aload_n hx hb dX1_tie_0 rfl (lv_at hl 0 rfl) ?_
  refine lv_iconst (v := 0) hx hb dX1_tie_1 (by decide) ?_
  refine va_put (ci := 1) (v := .int 0) (ty := .int) (C := RX1) (T := TX1) (N := 11) hx hb hts kr_wsX1 tyX1 tyX1_ok nmX1 hown hK hP hD hS 0 rfl rfl 0 (by decide) (hts _ kq_542) (fun _ h9 => h9) rfl (by decide +kernel) rfl rfl (Nat.le_of_ble_eq_true rfl) dX1_tie_2 (fun H locs hP hD hS => ?_)
  have hP : va_P D vwCl (kr_W1 cy h a 0 N L A) H := hP
  have hD : va_D AA (kr_W1 cy h a 0 N L A) := hD
  refine lv_aload_n hx hb dX1_tie_5 rfl (lv_at hl 0 rfl) ?_
  refine lv_iload_n hx hb dX1_tie_6 rfl (lv_at hl 1 rfl) ?_
  refine kr_vI (n := 1) (As := [.int x]) (rest := []) ⟨hx, hb, hml, hown, hts⟩ (c_X1_isKnot l D cy h a 0 N L A x (by omega)) kg_RX1_91 ⟨rfl, rfl⟩ (by decide +kernel) ⟨Nat.le_of_ble_eq_true rfl, Nat.le_of_ble_eq_true rfl⟩ (kr_pv1 hP hK) rfl hl.1 rfl (Nat.le_of_ble_eq_true rfl) dX1_tie_7 ⟨Nat.zero_le _, Nat.zero_le _⟩ (fun r9 e9 => ?_)
  subst e9
  refine lv_if_ne (tgt := 19) hx hb dX1_tie_10 (by decide) (fun c10 => ?_) (fun c10 => ?_)
  · have hk := kr_if1 c10
    obtain ⟨k, hk2, rfl⟩ := kr_inN hN hk
    rw [show kr_ix (nI k) = k from kr_ix_nI (by omega)]
    refine lv_aload_n hx hb dX1_tie_19 rfl (lv_at hl 0 rfl) ?_
    refine va_get (ci := 1) (v := .ref (a 0)) (C := RX1) (T := TX1) (N := 11) hx hb hts kr_wsX1 hown hK hP 0 rfl rfl 2 (by decide) (hts _ kq_544) (fun _ h9 => h9) rfl dX1_tie_20 ?_
    refine lv_iload_n hx hb dX1_tie_23 rfl (lv_at hl 1 rfl) ?_
    refine kr_ald hx hb hK hP 1 0 rfl rfl k (by omega) (by decide) dX1_tie_24 ?_
    refine lv_iconst (v := 1) hx hb dX1_tie_25 (by decide) ?_
    refine lv_icmp_ne (tgt := 36) hx hb dX1_tie_26 (by decide) (fun c26 => ?_) (fun c26 => ?_)
    · rw [kr_cd2 hk (fun w => c26 w.1), if_neg kr_20, if_neg kr_20]
      refine lv_aload_n hx hb dX1_tie_36 rfl (lv_at hl 0 rfl) ?_
      refine lv_iconst (v := 2) hx hb dX1_tie_37 (by decide) ?_
      refine kr_wvI (n := 1) (As := [.int 2]) (rest := []) ⟨hx, hb, hml, hown, hts⟩ (c_X1_no l D cy h a 0 N L A H.size 2) kg_RX1_88 ⟨rfl, rfl⟩ (by decide +kernel) ⟨Nat.le_of_ble_eq_true rfl, Nat.le_of_ble_eq_true rfl⟩ (va_recv hK hP (ci := 1) (q0 := 0) rfl rfl) hP hK hD hS hA rfl hl.1 rfl (Nat.le_of_ble_eq_true rfl) dX1_tie_38 ⟨Nat.le_of_ble_eq_true rfl, Nat.le_of_ble_eq_true rfl⟩ (fun r9 u9 H locs e9 hP hD hS => ?_)
      subst e9
      exact kr_wI hx hb hr hlocks hP hK hD hS (fun z => absurd z (by decide)) dX1_tie_41
    · refine lv_iload_n hx hb dX1_tie_29 rfl (lv_at hl 2 rfl) ?_
      refine kr_sI (n := 1) (As := [.int y]) (rest := []) ⟨hx, hb, hml, hown, hts⟩ (c_X1_isLoad l y) kg_RX1_94 ⟨rfl, rfl⟩ (by decide +kernel) ⟨Nat.le_of_ble_eq_true rfl, Nat.le_of_ble_eq_true rfl⟩ ⟨kr_blT, fun U hU hW => ⟨rfl, trivial⟩⟩ rfl hl.1 rfl (Nat.le_of_ble_eq_true rfl) dX1_tie_30 ⟨Nat.zero_le _, Nat.zero_le _⟩ (fun r9 e9 => ?_)
      subst e9
      refine lv_if_ne (tgt := 42) hx hb dX1_tie_33 (by decide) (fun c33 => ?_) (fun c33 => ?_)
      · refine lv_aload_n hx hb dX1_tie_42 rfl (lv_at hl 0 rfl) ?_
        refine va_get (ci := 1) (v := .int (nI L)) (C := RX1) (T := TX1) (N := 11) hx hb hts kr_wsX1 hown hK hP 0 rfl rfl 7 (by decide) (hts _ kq_549) (fun _ h9 => h9) rfl dX1_tie_43 ?_
        refine lv_bipush (v := 6) hx hb dX1_tie_46 (by decide) ?_
        refine lv_icmp_ne (tgt := 57) hx hb dX1_tie_48 (by decide) (fun c48 => ?_) (fun c48 => ?_)
        · have h6 : L < 6 := by have h9 : ¬ L = 6 := fun w => c48 (by rw [w]; rfl); omega
          rw [kr_cd0 hk ⟨c26, kr_if1 c33⟩ h6, if_pos rfl, if_pos rfl]
          refine lv_aload_n hx hb dX1_tie_57 rfl (lv_at hl 0 rfl) ?_
          refine va_get (ci := 1) (v := .ref (a 5)) (C := RX1) (T := TX1) (N := 11) hx hb hts kr_wsX1 hown hK hP 0 rfl rfl 8 (by decide) (hts _ kq_550) (fun _ h9 => h9) rfl dX1_tie_58 ?_
          refine lv_aload_n hx hb dX1_tie_61 rfl (lv_at hl 0 rfl) ?_
          refine va_get (ci := 1) (v := .int (nI L)) (C := RX1) (T := TX1) (N := 11) hx hb hts kr_wsX1 hown hK hP 0 rfl rfl 7 (by decide) (hts _ kq_549) (fun _ h9 => h9) rfl dX1_tie_62 ?_
          refine lv_iconst (v := 1) hx hb dX1_tie_65 (by decide) ?_
          refine kr_ast hx hb hK hP hD hS 6 0 rfl rfl L (by omega) (by decide) dX1_tie_66 (fun H locs hP hD hS => ?_)
          have hP : va_P D vwCl (kr_W1 cy h a 0 N L (kr_up A 5 (upd (A 5) L 1))) H := hP
          have hD : va_D AA (kr_W1 cy h a 0 N L (kr_up A 5 (upd (A 5) L 1))) := hD
          refine lv_aload_n hx hb dX1_tie_67 rfl (lv_at hl 0 rfl) ?_
          refine va_get (ci := 1) (v := .ref (a 7)) (C := RX1) (T := TX1) (N := 11) hx hb hts kr_wsX1 hown hK hP 0 rfl rfl 9 (by decide) (hts _ kq_551) (fun _ h9 => h9) rfl dX1_tie_68 ?_
          refine lv_iconst (v := 5) hx hb dX1_tie_71 (by decide) ?_
          refine lv_aload_n hx hb dX1_tie_72 rfl (lv_at hl 0 rfl) ?_
          refine va_get (ci := 1) (v := .int (nI L)) (C := RX1) (T := TX1) (N := 11) hx hb hts kr_wsX1 hown hK hP 0 rfl rfl 7 (by decide) (hts _ kq_549) (fun _ h9 => h9) rfl dX1_tie_73 ?_
          refine kr_imulN hx hb 5 L dX1_tie_76 ?_
          refine lv_iload_n hx hb dX1_tie_77 rfl (lv_at hl 2 rfl) ?_
          refine kr_ast hx hb hK hP hD hS 8 0 rfl rfl (5 * L) (by omega) (by decide) dX1_tie_78 (fun H locs hP hD hS => ?_)
          have hP : va_P D vwCl (kr_W1 cy h a 0 N L (kr_up (kr_up A 5 (upd (A 5) L 1)) 7 (upd (A 7) (5 * L) y))) H := hP
          have hD : va_D AA (kr_W1 cy h a 0 N L (kr_up (kr_up A 5 (upd (A 5) L 1)) 7 (upd (A 7) (5 * L) y))) := hD
          refine lv_aload_n hx hb dX1_tie_79 rfl (lv_at hl 0 rfl) ?_
          refine va_get (ci := 1) (v := .ref (a 6)) (C := RX1) (T := TX1) (N := 11) hx hb hts kr_wsX1 hown hK hP 0 rfl rfl 10 (by decide) (hts _ kq_552) (fun _ h9 => h9) rfl dX1_tie_80 ?_
          refine lv_iconst (v := 5) hx hb dX1_tie_83 (by decide) ?_
          refine lv_aload_n hx hb dX1_tie_84 rfl (lv_at hl 0 rfl) ?_
          refine va_get (ci := 1) (v := .int (nI L)) (C := RX1) (T := TX1) (N := 11) hx hb hts kr_wsX1 hown hK hP 0 rfl rfl 7 (by decide) (hts _ kq_549) (fun _ h9 => h9) rfl dX1_tie_85 ?_
          refine kr_imulN hx hb 5 L dX1_tie_88 ?_
          refine lv_iload_n hx hb dX1_tie_89 rfl (lv_at hl 1 rfl) ?_
          refine kr_ast hx hb hK hP hD hS 7 0 rfl rfl (5 * L) (by omega) (by decide) dX1_tie_90 (fun H locs hP hD hS => ?_)
          have hP : va_P D vwCl (kr_W1 cy h a 0 N L (kr_up (kr_up (kr_up A 5 (upd (A 5) L 1)) 7 (upd (A 7) (5 * L) y)) 6 (upd (A 6) (5 * L) (nI k)))) H := hP
          have hD : va_D AA (kr_W1 cy h a 0 N L (kr_up (kr_up (kr_up A 5 (upd (A 5) L 1)) 7 (upd (A 7) (5 * L) y)) 6 (upd (A 6) (5 * L) (nI k)))) := hD
          rw [show kr_up (kr_up (kr_up A 5 (upd (A 5) L 1)) 7 (upd (A 7) (5 * L) y)) 6 (upd (A 6) (5 * L) (nI k)) = kr_tA A L k y from kr_tA1 L k y] at hP hD
          refine lv_aload_n hx hb dX1_tie_91 rfl (lv_at hl 0 rfl) ?_
          refine lv_dup hx hb dX1_tie_92 rfl ?_
          refine va_get (ci := 1) (v := .int (nI L)) (C := RX1) (T := TX1) (N := 11) hx hb hts kr_wsX1 hown hK hP 0 rfl rfl 7 (by decide) (hts _ kq_549) (fun _ h9 => h9) rfl dX1_tie_93 ?_
          refine lv_iconst (v := 1) hx hb dX1_tie_96 (by decide) ?_
          refine kr_iaddN hx hb L 1 dX1_tie_97 ?_
          refine va_put (ci := 1) (v := .int (nI (L + 1))) (ty := .int) (C := RX1) (T := TX1) (N := 11) hx hb hts kr_wsX1 tyX1 tyX1_ok nmX1 hown hK hP hD hS 0 rfl rfl 7 (by decide) (hts _ kq_549) (fun _ h9 => h9) rfl (by decide +kernel) rfl rfl (Nat.le_of_ble_eq_true rfl) dX1_tie_98 (fun H locs hP hD hS => ?_)
          have hP : va_P D vwCl (kr_W1 cy h a 0 N (L + 1) (kr_tA A L k y)) H := hP
          have hD : va_D AA (kr_W1 cy h a 0 N (L + 1) (kr_tA A L k y)) := hD
          refine lv_aload_n hx hb dX1_tie_101 rfl (lv_at hl 0 rfl) ?_
          refine va_get (ci := 1) (v := .int (nI (L + 1))) (C := RX1) (T := TX1) (N := 11) hx hb hts kr_wsX1 hown hK hP 0 rfl rfl 7 (by decide) (hts _ kq_549) (fun _ h9 => h9) rfl dX1_tie_102 ?_
          refine lv_iconst (v := 1) hx hb dX1_tie_105 (by decide) ?_
          refine kr_isubN hx hb (L + 1) 1 (by omega) dX1_tie_106 ?_
          exact kr_wI hx hb hr hlocks hP hK hD hS (fun _ => rfl) dX1_tie_107
        · rw [kr_cd3 hk ⟨c26, kr_if1 c33⟩ (by have := (nI_eq (a := L) (b := 6) (by omega) (by decide)).mp c48; omega), if_neg kr_30, if_neg kr_30]
          refine lv_aload_n hx hb dX1_tie_51 rfl (lv_at hl 0 rfl) ?_
          refine lv_iconst (v := 3) hx hb dX1_tie_52 (by decide) ?_
          refine kr_wvI (n := 1) (As := [.int 3]) (rest := []) ⟨hx, hb, hml, hown, hts⟩ (c_X1_no l D cy h a 0 N L A H.size 3) kg_RX1_88 ⟨rfl, rfl⟩ (by decide +kernel) ⟨Nat.le_of_ble_eq_true rfl, Nat.le_of_ble_eq_true rfl⟩ (va_recv hK hP (ci := 1) (q0 := 0) rfl rfl) hP hK hD hS hA rfl hl.1 rfl (Nat.le_of_ble_eq_true rfl) dX1_tie_53 ⟨Nat.le_of_ble_eq_true rfl, Nat.le_of_ble_eq_true rfl⟩ (fun r9 u9 H locs e9 hP hD hS => ?_)
          subst e9
          exact kr_wI hx hb hr hlocks hP hK hD hS (fun z => absurd z (by decide)) dX1_tie_56
      · rw [kr_cd2 hk (fun w => kr_if0 c33 w.2), if_neg kr_20, if_neg kr_20]
        refine lv_aload_n hx hb dX1_tie_36 rfl (lv_at hl 0 rfl) ?_
        refine lv_iconst (v := 2) hx hb dX1_tie_37 (by decide) ?_
        refine kr_wvI (n := 1) (As := [.int 2]) (rest := []) ⟨hx, hb, hml, hown, hts⟩ (c_X1_no l D cy h a 0 N L A H.size 2) kg_RX1_88 ⟨rfl, rfl⟩ (by decide +kernel) ⟨Nat.le_of_ble_eq_true rfl, Nat.le_of_ble_eq_true rfl⟩ (va_recv hK hP (ci := 1) (q0 := 0) rfl rfl) hP hK hD hS hA rfl hl.1 rfl (Nat.le_of_ble_eq_true rfl) dX1_tie_38 ⟨Nat.le_of_ble_eq_true rfl, Nat.le_of_ble_eq_true rfl⟩ (fun r9 u9 H locs e9 hP hD hS => ?_)
        subst e9
        exact kr_wI hx hb hr hlocks hP hK hD hS (fun z => absurd z (by decide)) dX1_tie_41
  · rw [kr_cd1 (kr_if0 c10), if_neg kr_10, if_neg kr_10]
    refine lv_aload_n hx hb dX1_tie_13 rfl (lv_at hl 0 rfl) ?_
    refine lv_iconst (v := 1) hx hb dX1_tie_14 (by decide) ?_
    refine kr_wvI (n := 1) (As := [.int 1]) (rest := []) ⟨hx, hb, hml, hown, hts⟩ (c_X1_no l D cy h a 0 N L A H.size 1) kg_RX1_88 ⟨rfl, rfl⟩ (by decide +kernel) ⟨Nat.le_of_ble_eq_true rfl, Nat.le_of_ble_eq_true rfl⟩ (va_recv hK hP (ci := 1) (q0 := 0) rfl rfl) hP hK hD hS hA rfl hl.1 rfl (Nat.le_of_ble_eq_true rfl) dX1_tie_15 ⟨Nat.le_of_ble_eq_true rfl, Nat.le_of_ble_eq_true rfl⟩ (fun r9 u9 H locs e9 hP hD hS => ?_)
    subst e9
    exact kr_wI hx hb hr hlocks hP hK hD hS (fun z => absurd z (by decide)) dX1_tie_18
set_option maxHeartbeats 4000000 in
set_option maxRecDepth 100000 in
theorem c_X1_join (l : Launch) (D : va_G) (cy : ClassId) (h : Nat) (a : Nat → Nat) (th : Int32) (N L : Nat) (A : Nat → Nat → Int32) (sz : Nat) (x y z : Int32) (hw : kr_wf N L A) : Met l yX1_join (Cond.code yX1_join cX1_join 4 (some .int) :: kr_all) ({ frames := 2, cells := 0, slots := 0, locals := 43 }) (va_Pc [.ref h, .int x, .int y, .int z] (kr_Rw D (kr_W1 cy h a th N L A) cy sz)) (va_Qi (fun r (_ : Unit) => kr_cd (kr_i L x ∧ kr_i N y) (A 0 (kr_ix y) = 0 ∧ kr_o z) (¬ A 5 (kr_ix x) = 0 ∧ A 5 (kr_ix x) < 5) = 0 → r = nI (kr_rc A (kr_ix x) + 1)) (fun _ t => kr_Rq D (kr_W1 cy h a (kr_cd (kr_i L x ∧ kr_i N y) (A 0 (kr_ix y) = 0 ∧ kr_o z) (¬ A 5 (kr_ix x) = 0 ∧ A 5 (kr_ix x) < 5)) N L (if kr_cd (kr_i L x ∧ kr_i N y) (A 0 (kr_ix y) = 0 ∧ kr_o z) (¬ A 5 (kr_ix x) = 0 ∧ A 5 (kr_ix x) < 5) = 0 then kr_jA A (kr_ix x) (kr_rc A (kr_ix x)) (kr_ix y) z else A)) cy (va_A (kr_W1 cy h a th N L A) sz) t) (va_A (kr_W1 cy h a th N L A) sz)) 0 0 (va_A (kr_W1 cy h a th N L A) sz) := by
  refine kr_ofw (Qc := fun AA => va_Qi (fun r (_ : Unit) => kr_cd (kr_i L x ∧ kr_i N y) (A 0 (kr_ix y) = 0 ∧ kr_o z) (¬ A 5 (kr_ix x) = 0 ∧ A 5 (kr_ix x) < 5) = 0 → r = nI (kr_rc A (kr_ix x) + 1)) (fun _ t => kr_Rq D (kr_W1 cy h a (kr_cd (kr_i L x ∧ kr_i N y) (A 0 (kr_ix y) = 0 ∧ kr_o z) (¬ A 5 (kr_ix x) = 0 ∧ A 5 (kr_ix x) < 5)) N L (if kr_cd (kr_i L x ∧ kr_i N y) (A 0 (kr_ix y) = 0 ∧ kr_o z) (¬ A 5 (kr_ix x) = 0 ∧ A 5 (kr_ix x) < 5) = 0 then kr_jA A (kr_ix x) (kr_rc A (kr_ix x)) (kr_ix y) z else A)) cy AA t) AA) (by decide) (Nat.le_of_ble_eq_true rfl) ?_
  intro p e s m below meth c ls AA hx hb hml hr hts hown hlocks hin hA hP hK hD hS hl
  have hown : s.vm.findClass RX1 = some m.cls := hown
  have hl : lv_has ls 4 [(0, .ref h), (1, .int x), (2, .int y), (3, .int z)] := hl
  have hN := hw.1
  have hL := hw.2.1
  refine lv_aload_n hx hb dX1_join_0 rfl (lv_at hl 0 rfl) ?_
  refine lv_iconst (v := 0) hx hb dX1_join_1 (by decide) ?_
  refine va_put (ci := 1) (v := .int 0) (ty := .int) (C := RX1) (T := TX1) (N := 11) hx hb hts kr_wsX1 tyX1 tyX1_ok nmX1 hown hK hP hD hS 0 rfl rfl 0 (by decide) (hts _ kq_542) (fun _ h9 => h9) rfl (by decide +kernel) rfl rfl (Nat.le_of_ble_eq_true rfl) dX1_join_2 (fun H locs hP hD hS => ?_)
  have hP : va_P D vwCl (kr_W1 cy h a 0 N L A) H := hP
  have hD : va_D AA (kr_W1 cy h a 0 N L A) := hD
  refine lv_aload_n hx hb dX1_join_5 rfl (lv_at hl 0 rfl) ?_
  refine lv_iload_n hx hb dX1_join_6 rfl (lv_at hl 1 rfl) ?_
  refine kr_vI (n := 1) (As := [.int x]) (rest := []) ⟨hx, hb, hml, hown, hts⟩ (c_X1_isLine l D cy h a 0 N L A x (by omega)) kg_RX1_48 ⟨rfl, rfl⟩ (by decide +kernel) ⟨Nat.le_of_ble_eq_true rfl, Nat.le_of_ble_eq_true rfl⟩ (kr_pv1 hP hK) rfl hl.1 rfl (Nat.le_of_ble_eq_true rfl) dX1_join_7 ⟨Nat.zero_le _, Nat.zero_le _⟩ (fun r9 e9 => ?_)
  subst e9
  refine lv_if_eq (tgt := 21) hx hb dX1_join_10 (by decide) (fun c10 => ?_) (fun c10 => ?_)
  · rw [kr_cd1 (fun w => kr_if0 c10 w.1), if_neg kr_10]
    refine lv_aload_n hx hb dX1_join_21 rfl (lv_at hl 0 rfl) ?_
    refine lv_iconst (v := 1) hx hb dX1_join_22 (by decide) ?_
    refine kr_wvI (n := 1) (As := [.int 1]) (rest := []) ⟨hx, hb, hml, hown, hts⟩ (c_X1_no l D cy h a 0 N L A H.size 1) kg_RX1_88 ⟨rfl, rfl⟩ (by decide +kernel) ⟨Nat.le_of_ble_eq_true rfl, Nat.le_of_ble_eq_true rfl⟩ (va_recv hK hP (ci := 1) (q0 := 0) rfl rfl) hP hK hD hS hA rfl hl.1 rfl (Nat.le_of_ble_eq_true rfl) dX1_join_23 ⟨Nat.le_of_ble_eq_true rfl, Nat.le_of_ble_eq_true rfl⟩ (fun r9 u9 H locs e9 hP hD hS => ?_)
    subst e9
    exact kr_wI hx hb hr hlocks hP hK hD hS (fun z => absurd z (by decide)) dX1_join_26
  · have hk1 := kr_if1 c10
    obtain ⟨q, hq, rfl⟩ := kr_inL hL hk1
    obtain ⟨hrc, er⟩ := hw.rc hq
    refine lv_aload_n hx hb dX1_join_13 rfl (lv_at hl 0 rfl) ?_
    refine lv_iload_n hx hb dX1_join_14 rfl (lv_at hl 2 rfl) ?_
    refine kr_vI (n := 1) (As := [.int y]) (rest := []) ⟨hx, hb, hml, hown, hts⟩ (c_X1_isKnot l D cy h a 0 N L A y (by omega)) kg_RX1_91 ⟨rfl, rfl⟩ (by decide +kernel) ⟨Nat.le_of_ble_eq_true rfl, Nat.le_of_ble_eq_true rfl⟩ (kr_pv1 hP hK) rfl hl.1 rfl (Nat.le_of_ble_eq_true rfl) dX1_join_15 ⟨Nat.zero_le _, Nat.zero_le _⟩ (fun r9 e9 => ?_)
    subst e9
    refine lv_if_ne (tgt := 27) hx hb dX1_join_18 (by decide) (fun c18 => ?_) (fun c18 => ?_)
    · have hk := kr_if1 c18
      obtain ⟨k, hk2, rfl⟩ := kr_inN hN hk
      rw [show kr_ix (nI k) = k from kr_ix_nI (by omega), show kr_ix (nI q) = q from kr_ix_nI (by omega)]
      refine lv_aload_n hx hb dX1_join_27 rfl (lv_at hl 0 rfl) ?_
      refine va_get (ci := 1) (v := .ref (a 0)) (C := RX1) (T := TX1) (N := 11) hx hb hts kr_wsX1 hown hK hP 0 rfl rfl 2 (by decide) (hts _ kq_544) (fun _ h9 => h9) rfl dX1_join_28 ?_
      refine lv_iload_n hx hb dX1_join_31 rfl (lv_at hl 2 rfl) ?_
      refine kr_ald hx hb hK hP 1 0 rfl rfl k (by omega) (by decide) dX1_join_32 ?_
      refine lv_if_ne (tgt := 43) hx hb dX1_join_33 (by decide) (fun c33 => ?_) (fun c33 => ?_)
      · rw [kr_cd2 ⟨hk1, hk⟩ (fun w => c33 w.1), if_neg kr_20]
        refine lv_aload_n hx hb dX1_join_43 rfl (lv_at hl 0 rfl) ?_
        refine lv_iconst (v := 2) hx hb dX1_join_44 (by decide) ?_
        refine kr_wvI (n := 1) (As := [.int 2]) (rest := []) ⟨hx, hb, hml, hown, hts⟩ (c_X1_no l D cy h a 0 N L A H.size 2) kg_RX1_88 ⟨rfl, rfl⟩ (by decide +kernel) ⟨Nat.le_of_ble_eq_true rfl, Nat.le_of_ble_eq_true rfl⟩ (va_recv hK hP (ci := 1) (q0 := 0) rfl rfl) hP hK hD hS hA rfl hl.1 rfl (Nat.le_of_ble_eq_true rfl) dX1_join_45 ⟨Nat.le_of_ble_eq_true rfl, Nat.le_of_ble_eq_true rfl⟩ (fun r9 u9 H locs e9 hP hD hS => ?_)
        subst e9
        exact kr_wI hx hb hr hlocks hP hK hD hS (fun z => absurd z (by decide)) dX1_join_48
      · refine lv_iload_n hx hb dX1_join_36 rfl (lv_at hl 3 rfl) ?_
        refine kr_sI (n := 1) (As := [.int z]) (rest := []) ⟨hx, hb, hml, hown, hts⟩ (c_X1_isLoad l z) kg_RX1_94 ⟨rfl, rfl⟩ (by decide +kernel) ⟨Nat.le_of_ble_eq_true rfl, Nat.le_of_ble_eq_true rfl⟩ ⟨kr_blT, fun U hU hW => ⟨rfl, trivial⟩⟩ rfl hl.1 rfl (Nat.le_of_ble_eq_true rfl) dX1_join_37 ⟨Nat.zero_le _, Nat.zero_le _⟩ (fun r9 e9 => ?_)
        subst e9
        refine lv_if_ne (tgt := 49) hx hb dX1_join_40 (by decide) (fun c40 => ?_) (fun c40 => ?_)
        · refine lv_aload_n hx hb dX1_join_49 rfl (lv_at hl 0 rfl) ?_
          refine va_get (ci := 1) (v := .ref (a 5)) (C := RX1) (T := TX1) (N := 11) hx hb hts kr_wsX1 hown hK hP 0 rfl rfl 8 (by decide) (hts _ kq_550) (fun _ h9 => h9) rfl dX1_join_50 ?_
          refine lv_iload_n hx hb dX1_join_53 rfl (lv_at hl 1 rfl) ?_
          refine kr_ald hx hb hK hP 6 0 rfl rfl q (by omega) (by decide) dX1_join_54 ?_
          refine lv_if_eq (tgt := 68) hx hb dX1_join_55 (by decide) (fun c55 => ?_) (fun c55 => ?_)
          · rw [kr_cd3 ⟨hk1, hk⟩ ⟨c33, kr_if1 c40⟩ (fun w => w.1 c55), if_neg kr_30]
            refine lv_aload_n hx hb dX1_join_68 rfl (lv_at hl 0 rfl) ?_
            refine lv_iconst (v := 3) hx hb dX1_join_69 (by decide) ?_
            refine kr_wvI (n := 1) (As := [.int 3]) (rest := []) ⟨hx, hb, hml, hown, hts⟩ (c_X1_no l D cy h a 0 N L A H.size 3) kg_RX1_88 ⟨rfl, rfl⟩ (by decide +kernel) ⟨Nat.le_of_ble_eq_true rfl, Nat.le_of_ble_eq_true rfl⟩ (va_recv hK hP (ci := 1) (q0 := 0) rfl rfl) hP hK hD hS hA rfl hl.1 rfl (Nat.le_of_ble_eq_true rfl) dX1_join_70 ⟨Nat.le_of_ble_eq_true rfl, Nat.le_of_ble_eq_true rfl⟩ (fun r9 u9 H locs e9 hP hD hS => ?_)
            subst e9
            exact kr_wI hx hb hr hlocks hP hK hD hS (fun z => absurd z (by decide)) dX1_join_73
          · refine lv_aload_n hx hb dX1_join_58 rfl (lv_at hl 0 rfl) ?_
            refine va_get (ci := 1) (v := .ref (a 5)) (C := RX1) (T := TX1) (N := 11) hx hb hts kr_wsX1 hown hK hP 0 rfl rfl 8 (by decide) (hts _ kq_550) (fun _ h9 => h9) rfl dX1_join_59 ?_
            refine lv_iload_n hx hb dX1_join_62 rfl (lv_at hl 1 rfl) ?_
            refine kr_ald hx hb hK hP 6 0 rfl rfl q (by omega) (by decide) dX1_join_63 ?_
            refine lv_iconst (v := 5) hx hb dX1_join_64 (by decide) ?_
            rw [er]
            refine lv_icmp_ne (tgt := 74) hx hb dX1_join_65 (by decide) (fun c65 => ?_) (fun c65 => ?_)
            · have h5 : ¬ kr_rc A q = 5 := fun w => c65 (by rw [w]; rfl)
              rw [kr_cd0 ⟨hk1, hk⟩ ⟨c33, kr_if1 c40⟩ ⟨by rw [← er]; exact c55, nI_lt (b := 5) (by omega) (by decide)⟩, if_pos rfl]
              refine lv_aload_n hx hb dX1_join_74 rfl (lv_at hl 0 rfl) ?_
              refine va_get (ci := 1) (v := .ref (a 7)) (C := RX1) (T := TX1) (N := 11) hx hb hts kr_wsX1 hown hK hP 0 rfl rfl 9 (by decide) (hts _ kq_551) (fun _ h9 => h9) rfl dX1_join_75 ?_
              refine lv_iconst (v := 5) hx hb dX1_join_78 (by decide) ?_
              refine lv_iload_n hx hb dX1_join_79 rfl (lv_at hl 1 rfl) ?_
              refine kr_imulN hx hb 5 q dX1_join_80 ?_
              refine lv_aload_n hx hb dX1_join_81 rfl (lv_at hl 0 rfl) ?_
              refine va_get (ci := 1) (v := .ref (a 5)) (C := RX1) (T := TX1) (N := 11) hx hb hts kr_wsX1 hown hK hP 0 rfl rfl 8 (by decide) (hts _ kq_550) (fun _ h9 => h9) rfl dX1_join_82 ?_
              refine lv_iload_n hx hb dX1_join_85 rfl (lv_at hl 1 rfl) ?_
              refine kr_ald hx hb hK hP 6 0 rfl rfl q (by omega) (by decide) dX1_join_86 ?_
              rw [er]
              refine kr_iaddN hx hb (5 * q) (kr_rc A q) dX1_join_87 ?_
              refine lv_iload_n hx hb dX1_join_88 rfl (lv_at hl 3 rfl) ?_
              refine kr_ast hx hb hK hP hD hS 8 0 rfl rfl ((5 * q) + (kr_rc A q)) (by omega) (by decide) dX1_join_89 (fun H locs hP hD hS => ?_)
              have hP : va_P D vwCl (kr_W1 cy h a 0 N L (kr_up A 7 (upd (A 7) ((5 * q) + (kr_rc A q)) z))) H := hP
              have hD : va_D AA (kr_W1 cy h a 0 N L (kr_up A 7 (upd (A 7) ((5 * q) + (kr_rc A q)) z))) := hD
              refine lv_aload_n hx hb dX1_join_90 rfl (lv_at hl 0 rfl) ?_
              refine va_get (ci := 1) (v := .ref (a 6)) (C := RX1) (T := TX1) (N := 11) hx hb hts kr_wsX1 hown hK hP 0 rfl rfl 10 (by decide) (hts _ kq_552) (fun _ h9 => h9) rfl dX1_join_91 ?_
              refine lv_iconst (v := 5) hx hb dX1_join_94 (by decide) ?_
              refine lv_iload_n hx hb dX1_join_95 rfl (lv_at hl 1 rfl) ?_
              refine kr_imulN hx hb 5 q dX1_join_96 ?_
              refine lv_aload_n hx hb dX1_join_97 rfl (lv_at hl 0 rfl) ?_
              refine va_get (ci := 1) (v := .ref (a 5)) (C := RX1) (T := TX1) (N := 11) hx hb hts kr_wsX1 hown hK hP 0 rfl rfl 8 (by decide) (hts _ kq_550) (fun _ h9 => h9) rfl dX1_join_98 ?_
              refine lv_iload_n hx hb dX1_join_101 rfl (lv_at hl 1 rfl) ?_
              refine kr_ald hx hb hK hP 6 0 rfl rfl q (by omega) (by decide) dX1_join_102 ?_
              show W _ _ _ _ _ _ _ _ _ _ _ _ _ _ _ (F0 _ _ _ (.int (A 5 q) :: _))
              rw [er]
              refine kr_iaddN hx hb (5 * q) (kr_rc A q) dX1_join_103 ?_
              refine lv_iload_n hx hb dX1_join_104 rfl (lv_at hl 2 rfl) ?_
              refine kr_ast hx hb hK hP hD hS 7 0 rfl rfl ((5 * q) + (kr_rc A q)) (by omega) (by decide) dX1_join_105 (fun H locs hP hD hS => ?_)
              have hP : va_P D vwCl (kr_W1 cy h a 0 N L (kr_up (kr_up A 7 (upd (A 7) ((5 * q) + (kr_rc A q)) z)) 6 (upd (A 6) ((5 * q) + (kr_rc A q)) (nI k)))) H := hP
              have hD : va_D AA (kr_W1 cy h a 0 N L (kr_up (kr_up A 7 (upd (A 7) ((5 * q) + (kr_rc A q)) z)) 6 (upd (A 6) ((5 * q) + (kr_rc A q)) (nI k)))) := hD
              refine lv_aload_n hx hb dX1_join_106 rfl (lv_at hl 0 rfl) ?_
              refine va_get (ci := 1) (v := .ref (a 5)) (C := RX1) (T := TX1) (N := 11) hx hb hts kr_wsX1 hown hK hP 0 rfl rfl 8 (by decide) (hts _ kq_550) (fun _ h9 => h9) rfl dX1_join_107 ?_
              refine lv_iload_n hx hb dX1_join_110 rfl (lv_at hl 1 rfl) ?_
              refine lv_dup2_11 hx hb dX1_join_111 rfl rfl ?_
              refine kr_ald hx hb hK hP 6 0 rfl rfl q (by omega) (by decide) dX1_join_112 ?_
              show W _ _ _ _ _ _ _ _ _ _ _ _ _ _ _ (F0 _ _ _ (.int (A 5 q) :: _))
              rw [er]
              refine lv_iconst (v := 1) hx hb dX1_join_113 (by decide) ?_
              refine kr_iaddN hx hb (kr_rc A q) 1 dX1_join_114 ?_
              refine kr_ast hx hb hK hP hD hS 6 0 rfl rfl q (by omega) (by decide) dX1_join_115 (fun H locs hP hD hS => ?_)
              have hP : va_P D vwCl (kr_W1 cy h a 0 N L (kr_up (kr_up (kr_up A 7 (upd (A 7) ((5 * q) + (kr_rc A q)) z)) 6 (upd (A 6) ((5 * q) + (kr_rc A q)) (nI k))) 5 (upd (A 5) q (nI ((kr_rc A q) + 1))))) H := hP
              have hD : va_D AA (kr_W1 cy h a 0 N L (kr_up (kr_up (kr_up A 7 (upd (A 7) ((5 * q) + (kr_rc A q)) z)) 6 (upd (A 6) ((5 * q) + (kr_rc A q)) (nI k))) 5 (upd (A 5) q (nI ((kr_rc A q) + 1))))) := hD
              rw [show kr_up (kr_up (kr_up A 7 (upd (A 7) ((5 * q) + (kr_rc A q)) z)) 6 (upd (A 6) ((5 * q) + (kr_rc A q)) (nI k))) 5 (upd (A 5) q (nI ((kr_rc A q) + 1))) = kr_jA A q (kr_rc A q) k z from kr_jA1 q (kr_rc A q) k z] at hP hD
              refine lv_aload_n hx hb dX1_join_116 rfl (lv_at hl 0 rfl) ?_
              refine va_get (ci := 1) (v := .ref (a 5)) (C := RX1) (T := TX1) (N := 11) hx hb hts kr_wsX1 hown hK hP 0 rfl rfl 8 (by decide) (hts _ kq_550) (fun _ h9 => h9) rfl dX1_join_117 ?_
              refine lv_iload_n hx hb dX1_join_120 rfl (lv_at hl 1 rfl) ?_
              refine kr_ald hx hb hK hP 6 0 rfl rfl q (by omega) (by decide) dX1_join_121 ?_
              rw [show kr_jA A q (kr_rc A q) k z 5 q = nI (kr_rc A q + 1) from pk_us]
              exact kr_wI hx hb hr hlocks hP hK hD hS (fun _ => rfl) dX1_join_122
            · rw [kr_cd3 ⟨hk1, hk⟩ ⟨c33, kr_if1 c40⟩ (fun w => by have h9 := w.2; rw [c65] at h9; exact absurd h9 (by decide)), if_neg kr_30]
              refine lv_aload_n hx hb dX1_join_68 rfl (lv_at hl 0 rfl) ?_
              refine lv_iconst (v := 3) hx hb dX1_join_69 (by decide) ?_
              refine kr_wvI (n := 1) (As := [.int 3]) (rest := []) ⟨hx, hb, hml, hown, hts⟩ (c_X1_no l D cy h a 0 N L A H.size 3) kg_RX1_88 ⟨rfl, rfl⟩ (by decide +kernel) ⟨Nat.le_of_ble_eq_true rfl, Nat.le_of_ble_eq_true rfl⟩ (va_recv hK hP (ci := 1) (q0 := 0) rfl rfl) hP hK hD hS hA rfl hl.1 rfl (Nat.le_of_ble_eq_true rfl) dX1_join_70 ⟨Nat.le_of_ble_eq_true rfl, Nat.le_of_ble_eq_true rfl⟩ (fun r9 u9 H locs e9 hP hD hS => ?_)
              subst e9
              exact kr_wI hx hb hr hlocks hP hK hD hS (fun z => absurd z (by decide)) dX1_join_73
        · rw [kr_cd2 ⟨hk1, hk⟩ (fun w => kr_if0 c40 w.2), if_neg kr_20]
          refine lv_aload_n hx hb dX1_join_43 rfl (lv_at hl 0 rfl) ?_
          refine lv_iconst (v := 2) hx hb dX1_join_44 (by decide) ?_
          refine kr_wvI (n := 1) (As := [.int 2]) (rest := []) ⟨hx, hb, hml, hown, hts⟩ (c_X1_no l D cy h a 0 N L A H.size 2) kg_RX1_88 ⟨rfl, rfl⟩ (by decide +kernel) ⟨Nat.le_of_ble_eq_true rfl, Nat.le_of_ble_eq_true rfl⟩ (va_recv hK hP (ci := 1) (q0 := 0) rfl rfl) hP hK hD hS hA rfl hl.1 rfl (Nat.le_of_ble_eq_true rfl) dX1_join_45 ⟨Nat.le_of_ble_eq_true rfl, Nat.le_of_ble_eq_true rfl⟩ (fun r9 u9 H locs e9 hP hD hS => ?_)
          subst e9
          exact kr_wI hx hb hr hlocks hP hK hD hS (fun z => absurd z (by decide)) dX1_join_48
    · rw [kr_cd1 (fun w => kr_if0 c18 w.2), if_neg kr_10]
      refine lv_aload_n hx hb dX1_join_21 rfl (lv_at hl 0 rfl) ?_
      refine lv_iconst (v := 1) hx hb dX1_join_22 (by decide) ?_
      refine kr_wvI (n := 1) (As := [.int 1]) (rest := []) ⟨hx, hb, hml, hown, hts⟩ (c_X1_no l D cy h a 0 N L A H.size 1) kg_RX1_88 ⟨rfl, rfl⟩ (by decide +kernel) ⟨Nat.le_of_ble_eq_true rfl, Nat.le_of_ble_eq_true rfl⟩ (va_recv hK hP (ci := 1) (q0 := 0) rfl rfl) hP hK hD hS hA rfl hl.1 rfl (Nat.le_of_ble_eq_true rfl) dX1_join_23 ⟨Nat.le_of_ble_eq_true rfl, Nat.le_of_ble_eq_true rfl⟩ (fun r9 u9 H locs e9 hP hD hS => ?_)
      subst e9
      exact kr_wI hx hb hr hlocks hP hK hD hS (fun z => absurd z (by decide)) dX1_join_26
theorem kg_RX1_100 : GoodIn kr_all (wsS RX1 100 yX1_kindAt (Cond.code yX1_kindAt cX1_kindAt 1 (some .int) :: kr_all)) := kr_gS kq_622 kq_623 kq_49 kq_624
set_option maxHeartbeats 4000000 in
set_option maxRecDepth 100000 in
theorem c_X1_retie (l : Launch) (D : va_G) (cy : ClassId) (h : Nat) (a : Nat → Nat) (th : Int32) (N L : Nat) (A : Nat → Nat → Int32) (sz : Nat) (x y z : Int32) (hw : kr_wf N L A) : Met l yX1_retie (Cond.code yX1_retie cX1_retie 5 (some .int) :: kr_all) ({ frames := 3, cells := 0, slots := 0, locals := 65 }) (va_Pc [.ref h, .int x, .int y, .int z] (kr_Rw D (kr_W1 cy h a th N L A) cy sz)) (va_Qi (fun r (_ : Unit) => kr_cd (kr_q L A x y ∧ kr_i N z) (A 0 (kr_ix z) = if y = 0 then 1 else 0) True = 0 → r = A 6 (5 * kr_ix x + kr_ix y)) (fun _ t => kr_Rq D (kr_W1 cy h a (kr_cd (kr_q L A x y ∧ kr_i N z) (A 0 (kr_ix z) = if y = 0 then 1 else 0) True) N L (if kr_cd (kr_q L A x y ∧ kr_i N z) (A 0 (kr_ix z) = if y = 0 then 1 else 0) True = 0 then kr_rA A (5 * kr_ix x + kr_ix y) (kr_ix z) else A)) cy (va_A (kr_W1 cy h a th N L A) sz) t) (va_A (kr_W1 cy h a th N L A) sz)) 0 0 (va_A (kr_W1 cy h a th N L A) sz) := by
  refine kr_ofw (Qc := fun AA => va_Qi (fun r (_ : Unit) => kr_cd (kr_q L A x y ∧ kr_i N z) (A 0 (kr_ix z) = if y = 0 then 1 else 0) True = 0 → r = A 6 (5 * kr_ix x + kr_ix y)) (fun _ t => kr_Rq D (kr_W1 cy h a (kr_cd (kr_q L A x y ∧ kr_i N z) (A 0 (kr_ix z) = if y = 0 then 1 else 0) True) N L (if kr_cd (kr_q L A x y ∧ kr_i N z) (A 0 (kr_ix z) = if y = 0 then 1 else 0) True = 0 then kr_rA A (5 * kr_ix x + kr_ix y) (kr_ix z) else A)) cy AA t) AA) (by decide) (Nat.le_of_ble_eq_true rfl) ?_
  intro p e s m below meth c ls AA hx hb hml hr hts hown hlocks hin hA hP hK hD hS hl
  have hown : s.vm.findClass RX1 = some m.cls := hown
  have hl : lv_has ls 5 [(0, .ref h), (1, .int x), (2, .int y), (3, .int z)] := hl
  have hN := hw.1
  have hL := hw.2.1
  refine lv_aload_n hx hb dX1_retie_0 rfl (lv_at hl 0 rfl) ?_
  refine lv_iconst (v := 0) hx hb dX1_retie_1 (by decide) ?_
  refine va_put (ci := 1) (v := .int 0) (ty := .int) (C := RX1) (T := TX1) (N := 11) hx hb hts kr_wsX1 tyX1 tyX1_ok nmX1 hown hK hP hD hS 0 rfl rfl 0 (by decide) (hts _ kq_542) (fun _ h9 => h9) rfl (by decide +kernel) rfl rfl (Nat.le_of_ble_eq_true rfl) dX1_retie_2 (fun H locs hP hD hS => ?_)
  have hP : va_P D vwCl (kr_W1 cy h a 0 N L A) H := hP
  have hD : va_D AA (kr_W1 cy h a 0 N L A) := hD
  refine lv_aload_n hx hb dX1_retie_5 rfl (lv_at hl 0 rfl) ?_
  refine lv_iload_n hx hb dX1_retie_6 rfl (lv_at hl 1 rfl) ?_
  refine lv_iload_n hx hb dX1_retie_7 rfl (lv_at hl 2 rfl) ?_
  refine kr_vI (n := 2) (As := [.int x, .int y]) (rest := []) ⟨hx, hb, hml, hown, hts⟩ (c_X1_isPlace l D cy h a 0 N L A x y hw) kg_RX1_97 ⟨rfl, rfl⟩ (by decide +kernel) ⟨Nat.le_of_ble_eq_true rfl, Nat.le_of_ble_eq_true rfl⟩ (kr_pv1 hP hK) rfl hl.1 rfl (Nat.le_of_ble_eq_true rfl) dX1_retie_8 ⟨Nat.zero_le _, Nat.zero_le _⟩ (fun r9 e9 => ?_)
  subst e9
  refine lv_if_eq (tgt := 22) hx hb dX1_retie_11 (by decide) (fun c11 => ?_) (fun c11 => ?_)
  · rw [kr_cd1 (fun w => kr_if0 c11 w.1), if_neg kr_10]
    refine lv_aload_n hx hb dX1_retie_22 rfl (lv_at hl 0 rfl) ?_
    refine lv_iconst (v := 1) hx hb dX1_retie_23 (by decide) ?_
    refine kr_wvI (n := 1) (As := [.int 1]) (rest := []) ⟨hx, hb, hml, hown, hts⟩ (c_X1_no l D cy h a 0 N L A H.size 1) kg_RX1_88 ⟨rfl, rfl⟩ (by decide +kernel) ⟨Nat.le_of_ble_eq_true rfl, Nat.le_of_ble_eq_true rfl⟩ (va_recv hK hP (ci := 1) (q0 := 0) rfl rfl) hP hK hD hS hA rfl hl.1 rfl (Nat.le_of_ble_eq_true rfl) dX1_retie_24 ⟨Nat.le_of_ble_eq_true rfl, Nat.le_of_ble_eq_true rfl⟩ (fun r9 u9 H locs e9 hP hD hS => ?_)
    subst e9
    exact kr_wI hx hb hr hlocks hP hK hD hS (fun z => absurd z (by decide)) dX1_retie_27
  · have hk1 := kr_if1 c11
    obtain ⟨q, pl, hq, hp, rfl, rfl⟩ := kr_inP hw hk1
    obtain ⟨hrc, er⟩ := hw.rc hq
    refine lv_aload_n hx hb dX1_retie_14 rfl (lv_at hl 0 rfl) ?_
    refine lv_iload_n hx hb dX1_retie_15 rfl (lv_at hl 3 rfl) ?_
    refine kr_vI (n := 1) (As := [.int z]) (rest := []) ⟨hx, hb, hml, hown, hts⟩ (c_X1_isKnot l D cy h a 0 N L A z (by omega)) kg_RX1_91 ⟨rfl, rfl⟩ (by decide +kernel) ⟨Nat.le_of_ble_eq_true rfl, Nat.le_of_ble_eq_true rfl⟩ (kr_pv1 hP hK) rfl hl.1 rfl (Nat.le_of_ble_eq_true rfl) dX1_retie_16 ⟨Nat.zero_le _, Nat.zero_le _⟩ (fun r9 e9 => ?_)
    subst e9
    refine lv_if_ne (tgt := 28) hx hb dX1_retie_19 (by decide) (fun c19 => ?_) (fun c19 => ?_)
    · have hk := kr_if1 c19
      obtain ⟨k, hk2, rfl⟩ := kr_inN hN hk
      rw [show kr_ix (nI k) = k from kr_ix_nI (by omega)]
      refine lv_aload_n hx hb dX1_retie_28 rfl (lv_at hl 0 rfl) ?_
      refine va_get (ci := 1) (v := .ref (a 0)) (C := RX1) (T := TX1) (N := 11) hx hb hts kr_wsX1 hown hK hP 0 rfl rfl 2 (by decide) (hts _ kq_544) (fun _ h9 => h9) rfl dX1_retie_29 ?_
      refine lv_iload_n hx hb dX1_retie_32 rfl (lv_at hl 3 rfl) ?_
      refine kr_ald hx hb hK hP 1 0 rfl rfl k (by omega) (by decide) dX1_retie_33 ?_
      refine lv_iload_n hx hb dX1_retie_34 rfl (lv_at hl 2 rfl) ?_
      refine kr_sI (n := 1) (As := [.int (nI pl)]) (rest := [.int (A 0 k)]) ⟨hx, hb, hml, hown, hts⟩ (c_X1_kindAt l (nI pl)) kg_RX1_100 ⟨rfl, rfl⟩ (by decide +kernel) ⟨Nat.le_of_ble_eq_true rfl, Nat.le_of_ble_eq_true rfl⟩ ⟨kr_blT, fun U hU hW => ⟨rfl, trivial⟩⟩ rfl hl.1 rfl (Nat.le_of_ble_eq_true rfl) dX1_retie_35 ⟨Nat.zero_le _, Nat.zero_le _⟩ (fun r9 e9 => ?_)
      subst e9
      refine lv_icmp_eq (tgt := 47) hx hb dX1_retie_38 (by decide) (fun c38 => ?_) (fun c38 => ?_)
      · rw [kr_cd0 ⟨hk1, hk⟩ c38 trivial, if_pos rfl, show kr_ix (nI q) = q from kr_ix_nI (by omega), show kr_ix (nI pl) = pl from kr_ix_nI (by omega)]
        refine lv_aload_n hx hb dX1_retie_47 rfl (lv_at hl 0 rfl) ?_
        refine va_get (ci := 1) (v := .ref (a 6)) (C := RX1) (T := TX1) (N := 11) hx hb hts kr_wsX1 hown hK hP 0 rfl rfl 10 (by decide) (hts _ kq_552) (fun _ h9 => h9) rfl dX1_retie_48 ?_
        refine lv_iconst (v := 5) hx hb dX1_retie_51 (by decide) ?_
        refine lv_iload_n hx hb dX1_retie_52 rfl (lv_at hl 1 rfl) ?_
        refine kr_imulN hx hb 5 q dX1_retie_53 ?_
        refine lv_iload_n hx hb dX1_retie_54 rfl (lv_at hl 2 rfl) ?_
        refine kr_iaddN hx hb (5 * q) pl dX1_retie_55 ?_
        refine kr_ald hx hb hK hP 7 0 rfl rfl ((5 * q) + pl) (by omega) (by decide) dX1_retie_56 ?_
        refine lv_istore (lv' := [(4, .int (A 6 ((5 * q) + pl))), (0, .ref h), (1, .int (nI q)), (2, .int (nI pl)), (3, .int (nI k))]) hx hb dX1_retie_57 hl (by decide) rfl (fun ls hl => ?_)
        refine lv_aload_n hx hb dX1_retie_59 rfl (lv_at hl 1 rfl) ?_
        refine va_get (ci := 1) (v := .ref (a 6)) (C := RX1) (T := TX1) (N := 11) hx hb hts kr_wsX1 hown hK hP 0 rfl rfl 10 (by decide) (hts _ kq_552) (fun _ h9 => h9) rfl dX1_retie_60 ?_
        refine lv_iconst (v := 5) hx hb dX1_retie_63 (by decide) ?_
        refine lv_iload_n hx hb dX1_retie_64 rfl (lv_at hl 2 rfl) ?_
        refine kr_imulN hx hb 5 q dX1_retie_65 ?_
        refine lv_iload_n hx hb dX1_retie_66 rfl (lv_at hl 3 rfl) ?_
        refine kr_iaddN hx hb (5 * q) pl dX1_retie_67 ?_
        refine lv_iload_n hx hb dX1_retie_68 rfl (lv_at hl 4 rfl) ?_
        refine kr_ast hx hb hK hP hD hS 7 0 rfl rfl ((5 * q) + pl) (by omega) (by decide) dX1_retie_69 (fun H locs hP hD hS => ?_)
        have hP : va_P D vwCl (kr_W1 cy h a 0 N L (kr_up A 6 (upd (A 6) ((5 * q) + pl) (nI k)))) H := hP
        have hD : va_D AA (kr_W1 cy h a 0 N L (kr_up A 6 (upd (A 6) ((5 * q) + pl) (nI k)))) := hD
        refine lv_iload hx hb dX1_retie_70 (lv_at hl 0 rfl) ?_
        exact kr_wI hx hb hr hlocks hP hK hD hS (fun _ => rfl) dX1_retie_72
      · rw [kr_cd2 ⟨hk1, hk⟩ c38, if_neg kr_20]
        refine lv_aload_n hx hb dX1_retie_41 rfl (lv_at hl 0 rfl) ?_
        refine lv_iconst (v := 2) hx hb dX1_retie_42 (by decide) ?_
        refine kr_wvI (n := 1) (As := [.int 2]) (rest := []) ⟨hx, hb, hml, hown, hts⟩ (c_X1_no l D cy h a 0 N L A H.size 2) kg_RX1_88 ⟨rfl, rfl⟩ (by decide +kernel) ⟨Nat.le_of_ble_eq_true rfl, Nat.le_of_ble_eq_true rfl⟩ (va_recv hK hP (ci := 1) (q0 := 0) rfl rfl) hP hK hD hS hA rfl hl.1 rfl (Nat.le_of_ble_eq_true rfl) dX1_retie_43 ⟨Nat.le_of_ble_eq_true rfl, Nat.le_of_ble_eq_true rfl⟩ (fun r9 u9 H locs e9 hP hD hS => ?_)
        subst e9
        exact kr_wI hx hb hr hlocks hP hK hD hS (fun z => absurd z (by decide)) dX1_retie_46
    · rw [kr_cd1 (fun w => kr_if0 c19 w.2), if_neg kr_10]
      refine lv_aload_n hx hb dX1_retie_22 rfl (lv_at hl 0 rfl) ?_
      refine lv_iconst (v := 1) hx hb dX1_retie_23 (by decide) ?_
      refine kr_wvI (n := 1) (As := [.int 1]) (rest := []) ⟨hx, hb, hml, hown, hts⟩ (c_X1_no l D cy h a 0 N L A H.size 1) kg_RX1_88 ⟨rfl, rfl⟩ (by decide +kernel) ⟨Nat.le_of_ble_eq_true rfl, Nat.le_of_ble_eq_true rfl⟩ (va_recv hK hP (ci := 1) (q0 := 0) rfl rfl) hP hK hD hS hA rfl hl.1 rfl (Nat.le_of_ble_eq_true rfl) dX1_retie_24 ⟨Nat.le_of_ble_eq_true rfl, Nat.le_of_ble_eq_true rfl⟩ (fun r9 u9 H locs e9 hP hD hS => ?_)
      subst e9
      exact kr_wI hx hb hr hlocks hP hK hD hS (fun z => absurd z (by decide)) dX1_retie_27
set_option maxHeartbeats 4000000 in
set_option maxRecDepth 100000 in
theorem c_X1_pull (l : Launch) (D : va_G) (cy : ClassId) (h : Nat) (a : Nat → Nat) (th : Int32) (N L : Nat) (A : Nat → Nat → Int32) (sz : Nat) (x y : Int32) (hw : kr_wf N L A) : Met l yX1_pull (Cond.code yX1_pull cX1_pull 5 (some .int) :: kr_all) ({ frames := 4, cells := 0, slots := 0, locals := 92 }) (va_Pc [.ref h, .int x, .int y] (kr_Rw D (kr_W1 cy h a th N L A) cy sz)) (va_Qi (fun r (_ : Unit) => kr_cd (kr_i L x) (kr_o y) (¬ A 5 (kr_ix x) = 0) = 0 → r = kr_gw A (kr_ix x) y) (fun _ t => kr_Rq D (kr_W1 cy h a (kr_cd (kr_i L x) (kr_o y) (¬ A 5 (kr_ix x) = 0)) N L (if kr_cd (kr_i L x) (kr_o y) (¬ A 5 (kr_ix x) = 0) = 0 then kr_pA A (kr_ix x) y else A)) cy (va_A (kr_W1 cy h a th N L A) sz) t) (va_A (kr_W1 cy h a th N L A) sz)) 0 0 (va_A (kr_W1 cy h a th N L A) sz) := by
  refine kr_ofw (Qc := fun AA => va_Qi (fun r (_ : Unit) => kr_cd (kr_i L x) (kr_o y) (¬ A 5 (kr_ix x) = 0) = 0 → r = kr_gw A (kr_ix x) y) (fun _ t => kr_Rq D (kr_W1 cy h a (kr_cd (kr_i L x) (kr_o y) (¬ A 5 (kr_ix x) = 0)) N L (if kr_cd (kr_i L x) (kr_o y) (¬ A 5 (kr_ix x) = 0) = 0 then kr_pA A (kr_ix x) y else A)) cy AA t) AA) (by decide) (Nat.le_of_ble_eq_true rfl) ?_
  intro p e s m below meth c ls AA hx hb hml hr hts hown hlocks hin hA hP hK hD hS hl
  have hown : s.vm.findClass RX1 = some m.cls := hown
  have hl : lv_has ls 5 [(0, .ref h), (1, .int x), (2, .int y)] := hl
  have hN := hw.1
  have hL := hw.2.1
  refine lv_aload_n hx hb dX1_pull_0 rfl (lv_at hl 0 rfl) ?_
  refine lv_iconst (v := 0) hx hb dX1_pull_1 (by decide) ?_
  refine va_put (ci := 1) (v := .int 0) (ty := .int) (C := RX1) (T := TX1) (N := 11) hx hb hts kr_wsX1 tyX1 tyX1_ok nmX1 hown hK hP hD hS 0 rfl rfl 0 (by decide) (hts _ kq_542) (fun _ h9 => h9) rfl (by decide +kernel) rfl rfl (Nat.le_of_ble_eq_true rfl) dX1_pull_2 (fun H locs hP hD hS => ?_)
  have hP : va_P D vwCl (kr_W1 cy h a 0 N L A) H := hP
  have hD : va_D AA (kr_W1 cy h a 0 N L A) := hD
  refine lv_aload_n hx hb dX1_pull_5 rfl (lv_at hl 0 rfl) ?_
  refine lv_iload_n hx hb dX1_pull_6 rfl (lv_at hl 1 rfl) ?_
  refine kr_vI (n := 1) (As := [.int x]) (rest := []) ⟨hx, hb, hml, hown, hts⟩ (c_X1_isLine l D cy h a 0 N L A x (by omega)) kg_RX1_48 ⟨rfl, rfl⟩ (by decide +kernel) ⟨Nat.le_of_ble_eq_true rfl, Nat.le_of_ble_eq_true rfl⟩ (kr_pv1 hP hK) rfl hl.1 rfl (Nat.le_of_ble_eq_true rfl) dX1_pull_7 ⟨Nat.zero_le _, Nat.zero_le _⟩ (fun r9 e9 => ?_)
  subst e9
  refine lv_if_ne (tgt := 19) hx hb dX1_pull_10 (by decide) (fun c10 => ?_) (fun c10 => ?_)
  · have hk := kr_if1 c10
    obtain ⟨q, hq, rfl⟩ := kr_inL hL hk
    obtain ⟨hrc, er⟩ := hw.rc hq
    rw [show kr_ix (nI q) = q from kr_ix_nI (by omega)]
    refine lv_iload_n hx hb dX1_pull_19 rfl (lv_at hl 2 rfl) ?_
    refine kr_sI (n := 1) (As := [.int y]) (rest := []) ⟨hx, hb, hml, hown, hts⟩ (c_X1_isLoad l y) kg_RX1_94 ⟨rfl, rfl⟩ (by decide +kernel) ⟨Nat.le_of_ble_eq_true rfl, Nat.le_of_ble_eq_true rfl⟩ ⟨kr_blT, fun U hU hW => ⟨rfl, trivial⟩⟩ rfl hl.1 rfl (Nat.le_of_ble_eq_true rfl) dX1_pull_20 ⟨Nat.zero_le _, Nat.zero_le _⟩ (fun r9 e9 => ?_)
    subst e9
    refine lv_if_ne (tgt := 32) hx hb dX1_pull_23 (by decide) (fun c23 => ?_) (fun c23 => ?_)
    · refine lv_aload_n hx hb dX1_pull_32 rfl (lv_at hl 0 rfl) ?_
      refine va_get (ci := 1) (v := .ref (a 5)) (C := RX1) (T := TX1) (N := 11) hx hb hts kr_wsX1 hown hK hP 0 rfl rfl 8 (by decide) (hts _ kq_550) (fun _ h9 => h9) rfl dX1_pull_33 ?_
      refine lv_iload_n hx hb dX1_pull_36 rfl (lv_at hl 1 rfl) ?_
      refine kr_ald hx hb hK hP 6 0 rfl rfl q (by omega) (by decide) dX1_pull_37 ?_
      refine lv_if_ne (tgt := 47) hx hb dX1_pull_38 (by decide) (fun c38 => ?_) (fun c38 => ?_)
      · rw [kr_cd0 hk (kr_if1 c23) c38, if_pos rfl]
        have hp5 := (kr_pr_le (ld := y) hrc).1
        refine lv_aload_n hx hb dX1_pull_47 rfl (lv_at hl 0 rfl) ?_
        refine lv_iload_n hx hb dX1_pull_48 rfl (lv_at hl 1 rfl) ?_
        refine lv_iload_n hx hb dX1_pull_49 rfl (lv_at hl 2 rfl) ?_
        refine kr_vI (n := 2) (As := [.int (nI q), .int y]) (rest := []) ⟨hx, hb, hml, hown, hts⟩ (c_X1_giving l D cy h a 0 N L A q y hw (by omega)) kg_RX1_103 ⟨rfl, rfl⟩ (by decide +kernel) ⟨Nat.le_of_ble_eq_true rfl, Nat.le_of_ble_eq_true rfl⟩ (kr_pv1 hP hK) rfl hl.1 rfl (Nat.le_of_ble_eq_true rfl) dX1_pull_50 ⟨Nat.zero_le _, Nat.zero_le _⟩ (fun r9 e9 => ?_)
        subst e9
        refine lv_istore_n (lv' := [(3, .int (kr_gw A q y)), (0, .ref h), (1, .int (nI q)), (2, .int y)]) hx hb dX1_pull_53 rfl hl (by decide) rfl (fun ls hl => ?_)
        refine lv_iload_n hx hb dX1_pull_54 rfl (lv_at hl 0 rfl) ?_
        refine lv_iconst (v := -1) hx hb dX1_pull_55 (by decide) ?_
        refine lv_icmp_eq (tgt := 66) hx hb dX1_pull_56 (by decide) (fun c56 => ?_) (fun c56 => ?_)
        · have hP : va_P D vwCl (kr_W1 cy h a 0 N L (kr_pB A q y 0)) H := by rw [kr_pB0n c56 er]; exact hP
          have hD : va_D AA (kr_W1 cy h a 0 N L (kr_pB A q y 0)) := by rw [kr_pB0n c56 er]; exact hD
          refine lv_iconst (v := 0) hx hb dX1_pull_66 (by decide) ?_
          refine lv_istore (lv' := [(4, .int 0), (3, .int (kr_gw A q y)), (0, .ref h), (1, .int (nI q)), (2, .int y)]) hx hb dX1_pull_67 hl (by decide) rfl (fun ls hl => ?_)
          refine kr_lpH (nL := 5) (fun z : Nat => [(4, .int (nI z)), (3, .int (kr_gw A q y)), (0, .ref h), (1, .int (nI q)), (2, .int y)]) (fun z H locs => (z ≤ kr_pr' A q y) ∧ va_P D vwCl (kr_W1 cy h a 0 N L (kr_pB A q y z)) H ∧ va_D AA (kr_W1 cy h a 0 N L (kr_pB A q y z)) ∧ va_S AA s.heap H locs) (fun z => kr_pr' A q y - z) ?_ (0) ⟨Nat.zero_le _, hP, hD, hS⟩ (lv_sub hl [0, 1, 2, 3, 4] rfl)
          clear hl hP hD hS
          intro z H locs ls hI hl ih
          obtain ⟨i, rfl⟩ : ∃ y, y = z := ⟨_, rfl⟩
          have hl : lv_has ls 5 [(4, .int (nI i)), (3, .int (kr_gw A q y)), (0, .ref h), (1, .int (nI q)), (2, .int y)] := hl
          obtain ⟨hi0, hP, hD, hS⟩ : (i ≤ kr_pr' A q y) ∧ va_P D vwCl (kr_W1 cy h a 0 N L (kr_pB A q y i)) H ∧ va_D AA (kr_W1 cy h a 0 N L (kr_pB A q y i)) ∧ va_S AA s.heap H locs := hI
          refine lv_iload hx hb dX1_pull_69 (lv_at hl 0 rfl) ?_
          refine lv_aload_n hx hb dX1_pull_71 rfl (lv_at hl 2 rfl) ?_
          refine va_get (ci := 1) (v := .ref (a 5)) (C := RX1) (T := TX1) (N := 11) hx hb hts kr_wsX1 hown hK hP 0 rfl rfl 8 (by decide) (hts _ kq_550) (fun _ h9 => h9) rfl dX1_pull_72 ?_
          refine lv_iload_n hx hb dX1_pull_75 rfl (lv_at hl 3 rfl) ?_
          refine kr_ald hx hb hK hP 6 0 rfl rfl q (by omega) (by decide) dX1_pull_76 ?_
          rw [kr_pB5]
          refine lv_icmp_ge (tgt := 113) hx hb dX1_pull_77 (by decide) (fun c77 => ?_) (fun c77 => ?_)
          · have hi2 : i = kr_pr' A q y := by have := kr_ge (by omega) (by omega) c77; omega
            rw [hi2] at hP hD
            refine lv_iload_n hx hb dX1_pull_113 rfl (lv_at hl 1 rfl) ?_
            exact kr_wI hx hb hr hlocks hP hK hD hS (fun _ => rfl) dX1_pull_114
          · have hi : i < kr_pr' A q y := kr_lt (by omega) (by omega) c77
            have hwi := kr_wf_p hw hq hi0
            refine lv_aload_n hx hb dX1_pull_80 rfl (lv_at hl 2 rfl) ?_
            refine va_get (ci := 1) (v := .ref (a 6)) (C := RX1) (T := TX1) (N := 11) hx hb hts kr_wsX1 hown hK hP 0 rfl rfl 10 (by decide) (hts _ kq_552) (fun _ h9 => h9) rfl dX1_pull_81 ?_
            refine lv_iconst (v := 5) hx hb dX1_pull_84 (by decide) ?_
            refine lv_iload_n hx hb dX1_pull_85 rfl (lv_at hl 3 rfl) ?_
            refine kr_imulN hx hb 5 q dX1_pull_86 ?_
            refine lv_iload hx hb dX1_pull_87 (lv_at hl 0 rfl) ?_
            refine kr_iaddN hx hb (5 * q) i dX1_pull_89 ?_
            refine lv_aload_n hx hb dX1_pull_90 rfl (lv_at hl 2 rfl) ?_
            refine lv_aload_n hx hb dX1_pull_91 rfl (lv_at hl 2 rfl) ?_
            refine va_get (ci := 1) (v := .ref (a 6)) (C := RX1) (T := TX1) (N := 11) hx hb hts kr_wsX1 hown hK hP 0 rfl rfl 10 (by decide) (hts _ kq_552) (fun _ h9 => h9) rfl dX1_pull_92 ?_
            refine lv_iconst (v := 5) hx hb dX1_pull_95 (by decide) ?_
            refine lv_iload_n hx hb dX1_pull_96 rfl (lv_at hl 3 rfl) ?_
            refine kr_imulN hx hb 5 q dX1_pull_97 ?_
            refine lv_iload hx hb dX1_pull_98 (lv_at hl 0 rfl) ?_
            refine kr_iaddN hx hb (5 * q) i dX1_pull_100 ?_
            refine kr_ald hx hb hK hP 7 0 rfl rfl ((5 * q) + i) (by omega) (by decide) dX1_pull_101 ?_
            rw [kr_pB6]
            refine lv_iload_n hx hb dX1_pull_102 rfl (lv_at hl 4 rfl) ?_
            refine kr_vI (n := 2) (As := [.int (A 6 (5 * q + i)), .int y]) (rest := [.int (nI ((5 * q) + i)), .ref (a 6)]) ⟨hx, hb, hml, hown, hts⟩ (c_X1_form l D cy h a 0 N L (kr_pB A q y i) (A 6 (5 * q + i)) y hwi (hw.tn hq (by omega))) kg_RX1_68 ⟨rfl, rfl⟩ (by decide +kernel) ⟨Nat.le_of_ble_eq_true rfl, Nat.le_of_ble_eq_true rfl⟩ (kr_pv1 hP hK) rfl hl.1 rfl (Nat.le_of_ble_eq_true rfl) dX1_pull_103 ⟨Nat.zero_le _, Nat.zero_le _⟩ (fun r9 e9 => ?_)
            rw [kr_pBf] at e9
            subst e9
            refine kr_ast hx hb hK hP hD hS 7 0 rfl rfl ((5 * q) + i) (by omega) (by decide) dX1_pull_106 (fun H locs hP hD hS => ?_)
            have hP : va_P D vwCl (kr_W1 cy h a 0 N L (kr_up (kr_pB A q y i) 6 (upd ((kr_pB A q y i) 6) ((5 * q) + i) (kr_fm A y 16 (A 6 (5 * q + i)))))) H := hP
            have hD : va_D AA (kr_W1 cy h a 0 N L (kr_up (kr_pB A q y i) 6 (upd ((kr_pB A q y i) 6) ((5 * q) + i) (kr_fm A y 16 (A 6 (5 * q + i)))))) := hD
            rw [show kr_up (kr_pB A q y i) 6 (upd ((kr_pB A q y i) 6) ((5 * q) + i) (kr_fm A y 16 (A 6 (5 * q + i)))) = kr_pB A q y (i + 1) from kr_pBs i] at hP hD
            refine lv_iinc (v := nI (i + 1)) (lv' := [(4, .int (nI (i + 1))), (3, .int (kr_gw A q y)), (0, .ref h), (1, .int (nI q)), (2, .int y)]) hx hb dX1_pull_107 hl (k := 0) rfl (kr_inc _) (by decide) rfl (fun ls hl => ?_)
            refine lv_goto (tgt := 69) hx hb dX1_pull_110 (by decide) ?_
            exact ih (i + 1) _ _ ls ⟨by omega, hP, hD, hS⟩ (by show kr_pr' A q y - (i + 1) < kr_pr' A q y - i; omega) (lv_sub hl [0, 1, 2, 3, 4] rfl)
        · obtain ⟨g, hg5, eg⟩ := (kr_gw_kn (ld := y) hrc).resolve_left c56
          refine lv_aload_n hx hb dX1_pull_59 rfl (lv_at hl 1 rfl) ?_
          refine va_get (ci := 1) (v := .ref (a 5)) (C := RX1) (T := TX1) (N := 11) hx hb hts kr_wsX1 hown hK hP 0 rfl rfl 8 (by decide) (hts _ kq_550) (fun _ h9 => h9) rfl dX1_pull_60 ?_
          refine lv_iload_n hx hb dX1_pull_63 rfl (lv_at hl 2 rfl) ?_
          refine lv_iload_n hx hb dX1_pull_64 rfl (lv_at hl 0 rfl) ?_
          refine kr_ast hx hb hK hP hD hS 6 0 rfl rfl q (by omega) (by decide) dX1_pull_65 (fun H locs hP hD hS => ?_)
          have hP : va_P D vwCl (kr_W1 cy h a 0 N L (kr_up A 5 (upd (A 5) q (kr_gw A q y)))) H := hP
          have hD : va_D AA (kr_W1 cy h a 0 N L (kr_up A 5 (upd (A 5) q (kr_gw A q y)))) := hD
          rw [eg, ← kr_pB0y (by omega) eg] at hP hD
          refine lv_iconst (v := 0) hx hb dX1_pull_66 (by decide) ?_
          refine lv_istore (lv' := [(4, .int 0), (3, .int (kr_gw A q y)), (0, .ref h), (1, .int (nI q)), (2, .int y)]) hx hb dX1_pull_67 hl (by decide) rfl (fun ls hl => ?_)
          refine kr_lpH (nL := 5) (fun z : Nat => [(4, .int (nI z)), (3, .int (kr_gw A q y)), (0, .ref h), (1, .int (nI q)), (2, .int y)]) (fun z H locs => (z ≤ kr_pr' A q y) ∧ va_P D vwCl (kr_W1 cy h a 0 N L (kr_pB A q y z)) H ∧ va_D AA (kr_W1 cy h a 0 N L (kr_pB A q y z)) ∧ va_S AA s.heap H locs) (fun z => kr_pr' A q y - z) ?_ (0) ⟨Nat.zero_le _, hP, hD, hS⟩ (lv_sub hl [0, 1, 2, 3, 4] rfl)
          clear hl hP hD hS
          intro z H locs ls hI hl ih
          obtain ⟨i, rfl⟩ : ∃ y, y = z := ⟨_, rfl⟩
          have hl : lv_has ls 5 [(4, .int (nI i)), (3, .int (kr_gw A q y)), (0, .ref h), (1, .int (nI q)), (2, .int y)] := hl
          obtain ⟨hi0, hP, hD, hS⟩ : (i ≤ kr_pr' A q y) ∧ va_P D vwCl (kr_W1 cy h a 0 N L (kr_pB A q y i)) H ∧ va_D AA (kr_W1 cy h a 0 N L (kr_pB A q y i)) ∧ va_S AA s.heap H locs := hI
          refine lv_iload hx hb dX1_pull_69 (lv_at hl 0 rfl) ?_
          refine lv_aload_n hx hb dX1_pull_71 rfl (lv_at hl 2 rfl) ?_
          refine va_get (ci := 1) (v := .ref (a 5)) (C := RX1) (T := TX1) (N := 11) hx hb hts kr_wsX1 hown hK hP 0 rfl rfl 8 (by decide) (hts _ kq_550) (fun _ h9 => h9) rfl dX1_pull_72 ?_
          refine lv_iload_n hx hb dX1_pull_75 rfl (lv_at hl 3 rfl) ?_
          refine kr_ald hx hb hK hP 6 0 rfl rfl q (by omega) (by decide) dX1_pull_76 ?_
          rw [kr_pB5]
          refine lv_icmp_ge (tgt := 113) hx hb dX1_pull_77 (by decide) (fun c77 => ?_) (fun c77 => ?_)
          · have hi2 : i = kr_pr' A q y := by have := kr_ge (by omega) (by omega) c77; omega
            rw [hi2] at hP hD
            refine lv_iload_n hx hb dX1_pull_113 rfl (lv_at hl 1 rfl) ?_
            exact kr_wI hx hb hr hlocks hP hK hD hS (fun _ => rfl) dX1_pull_114
          · have hi : i < kr_pr' A q y := kr_lt (by omega) (by omega) c77
            have hwi := kr_wf_p hw hq hi0
            refine lv_aload_n hx hb dX1_pull_80 rfl (lv_at hl 2 rfl) ?_
            refine va_get (ci := 1) (v := .ref (a 6)) (C := RX1) (T := TX1) (N := 11) hx hb hts kr_wsX1 hown hK hP 0 rfl rfl 10 (by decide) (hts _ kq_552) (fun _ h9 => h9) rfl dX1_pull_81 ?_
            refine lv_iconst (v := 5) hx hb dX1_pull_84 (by decide) ?_
            refine lv_iload_n hx hb dX1_pull_85 rfl (lv_at hl 3 rfl) ?_
            refine kr_imulN hx hb 5 q dX1_pull_86 ?_
            refine lv_iload hx hb dX1_pull_87 (lv_at hl 0 rfl) ?_
            refine kr_iaddN hx hb (5 * q) i dX1_pull_89 ?_
            refine lv_aload_n hx hb dX1_pull_90 rfl (lv_at hl 2 rfl) ?_
            refine lv_aload_n hx hb dX1_pull_91 rfl (lv_at hl 2 rfl) ?_
            refine va_get (ci := 1) (v := .ref (a 6)) (C := RX1) (T := TX1) (N := 11) hx hb hts kr_wsX1 hown hK hP 0 rfl rfl 10 (by decide) (hts _ kq_552) (fun _ h9 => h9) rfl dX1_pull_92 ?_
            refine lv_iconst (v := 5) hx hb dX1_pull_95 (by decide) ?_
            refine lv_iload_n hx hb dX1_pull_96 rfl (lv_at hl 3 rfl) ?_
            refine kr_imulN hx hb 5 q dX1_pull_97 ?_
            refine lv_iload hx hb dX1_pull_98 (lv_at hl 0 rfl) ?_
            refine kr_iaddN hx hb (5 * q) i dX1_pull_100 ?_
            refine kr_ald hx hb hK hP 7 0 rfl rfl ((5 * q) + i) (by omega) (by decide) dX1_pull_101 ?_
            rw [kr_pB6]
            refine lv_iload_n hx hb dX1_pull_102 rfl (lv_at hl 4 rfl) ?_
            refine kr_vI (n := 2) (As := [.int (A 6 (5 * q + i)), .int y]) (rest := [.int (nI ((5 * q) + i)), .ref (a 6)]) ⟨hx, hb, hml, hown, hts⟩ (c_X1_form l D cy h a 0 N L (kr_pB A q y i) (A 6 (5 * q + i)) y hwi (hw.tn hq (by omega))) kg_RX1_68 ⟨rfl, rfl⟩ (by decide +kernel) ⟨Nat.le_of_ble_eq_true rfl, Nat.le_of_ble_eq_true rfl⟩ (kr_pv1 hP hK) rfl hl.1 rfl (Nat.le_of_ble_eq_true rfl) dX1_pull_103 ⟨Nat.zero_le _, Nat.zero_le _⟩ (fun r9 e9 => ?_)
            rw [kr_pBf] at e9
            subst e9
            refine kr_ast hx hb hK hP hD hS 7 0 rfl rfl ((5 * q) + i) (by omega) (by decide) dX1_pull_106 (fun H locs hP hD hS => ?_)
            have hP : va_P D vwCl (kr_W1 cy h a 0 N L (kr_up (kr_pB A q y i) 6 (upd ((kr_pB A q y i) 6) ((5 * q) + i) (kr_fm A y 16 (A 6 (5 * q + i)))))) H := hP
            have hD : va_D AA (kr_W1 cy h a 0 N L (kr_up (kr_pB A q y i) 6 (upd ((kr_pB A q y i) 6) ((5 * q) + i) (kr_fm A y 16 (A 6 (5 * q + i)))))) := hD
            rw [show kr_up (kr_pB A q y i) 6 (upd ((kr_pB A q y i) 6) ((5 * q) + i) (kr_fm A y 16 (A 6 (5 * q + i)))) = kr_pB A q y (i + 1) from kr_pBs i] at hP hD
            refine lv_iinc (v := nI (i + 1)) (lv' := [(4, .int (nI (i + 1))), (3, .int (kr_gw A q y)), (0, .ref h), (1, .int (nI q)), (2, .int y)]) hx hb dX1_pull_107 hl (k := 0) rfl (kr_inc _) (by decide) rfl (fun ls hl => ?_)
            refine lv_goto (tgt := 69) hx hb dX1_pull_110 (by decide) ?_
            exact ih (i + 1) _ _ ls ⟨by omega, hP, hD, hS⟩ (by show kr_pr' A q y - (i + 1) < kr_pr' A q y - i; omega) (lv_sub hl [0, 1, 2, 3, 4] rfl)
      · rw [kr_cd3 hk (kr_if1 c23) (fun w => w c38), if_neg kr_30]
        refine lv_aload_n hx hb dX1_pull_41 rfl (lv_at hl 0 rfl) ?_
        refine lv_iconst (v := 3) hx hb dX1_pull_42 (by decide) ?_
        refine kr_wvI (n := 1) (As := [.int 3]) (rest := []) ⟨hx, hb, hml, hown, hts⟩ (c_X1_no l D cy h a 0 N L A H.size 3) kg_RX1_88 ⟨rfl, rfl⟩ (by decide +kernel) ⟨Nat.le_of_ble_eq_true rfl, Nat.le_of_ble_eq_true rfl⟩ (va_recv hK hP (ci := 1) (q0 := 0) rfl rfl) hP hK hD hS hA rfl hl.1 rfl (Nat.le_of_ble_eq_true rfl) dX1_pull_43 ⟨Nat.le_of_ble_eq_true rfl, Nat.le_of_ble_eq_true rfl⟩ (fun r9 u9 H locs e9 hP hD hS => ?_)
        subst e9
        exact kr_wI hx hb hr hlocks hP hK hD hS (fun z => absurd z (by decide)) dX1_pull_46
    · rw [kr_cd2 hk (kr_if0 c23), if_neg kr_20]
      refine lv_aload_n hx hb dX1_pull_26 rfl (lv_at hl 0 rfl) ?_
      refine lv_iconst (v := 2) hx hb dX1_pull_27 (by decide) ?_
      refine kr_wvI (n := 1) (As := [.int 2]) (rest := []) ⟨hx, hb, hml, hown, hts⟩ (c_X1_no l D cy h a 0 N L A H.size 2) kg_RX1_88 ⟨rfl, rfl⟩ (by decide +kernel) ⟨Nat.le_of_ble_eq_true rfl, Nat.le_of_ble_eq_true rfl⟩ (va_recv hK hP (ci := 1) (q0 := 0) rfl rfl) hP hK hD hS hA rfl hl.1 rfl (Nat.le_of_ble_eq_true rfl) dX1_pull_28 ⟨Nat.le_of_ble_eq_true rfl, Nat.le_of_ble_eq_true rfl⟩ (fun r9 u9 H locs e9 hP hD hS => ?_)
      subst e9
      exact kr_wI hx hb hr hlocks hP hK hD hS (fun z => absurd z (by decide)) dX1_pull_31
  · rw [kr_cd1 (kr_if0 c10), if_neg kr_10]
    refine lv_aload_n hx hb dX1_pull_13 rfl (lv_at hl 0 rfl) ?_
    refine lv_iconst (v := 1) hx hb dX1_pull_14 (by decide) ?_
    refine kr_wvI (n := 1) (As := [.int 1]) (rest := []) ⟨hx, hb, hml, hown, hts⟩ (c_X1_no l D cy h a 0 N L A H.size 1) kg_RX1_88 ⟨rfl, rfl⟩ (by decide +kernel) ⟨Nat.le_of_ble_eq_true rfl, Nat.le_of_ble_eq_true rfl⟩ (va_recv hK hP (ci := 1) (q0 := 0) rfl rfl) hP hK hD hS hA rfl hl.1 rfl (Nat.le_of_ble_eq_true rfl) dX1_pull_15 ⟨Nat.le_of_ble_eq_true rfl, Nat.le_of_ble_eq_true rfl⟩ (fun r9 u9 H locs e9 hP hD hS => ?_)
    subst e9
    exact kr_wI hx hb hr hlocks hP hK hD hS (fun z => absurd z (by decide)) dX1_pull_18
set_option maxHeartbeats 4000000 in
set_option maxRecDepth 100000 in
theorem c_X1_best (l : Launch) (D : va_G) (cy : ClassId) (h : Nat) (a : Nat → Nat) (th : Int32) (N L : Nat) (A : Nat → Nat → Int32) (sz : Nat) (q pl : Nat) (hw : kr_wf N L A) (hq : q < L) (hp : pl < kr_rc A q) : Met l yX1_best (Cond.code yX1_best cX1_best 8 (some .int) :: kr_all) ({ frames := 4, cells := 0, slots := 0, locals := 86 }) (va_Pc [.ref h, .int (nI q), .int (nI pl)] (kr_Rw D (kr_W1 cy h a th N L A) cy sz)) (va_Qi (fun r (_ : Unit) => r = kr_bk A N q pl) (fun _ t => kr_Rq D (kr_W1 cy h a th N L A) cy (va_A (kr_W1 cy h a th N L A) sz) t) (va_A (kr_W1 cy h a th N L A) sz)) 0 0 (va_A (kr_W1 cy h a th N L A) sz) := by
  refine kr_ofw (Qc := fun AA => va_Qi (fun r (_ : Unit) => r = kr_bk A N q pl) (fun _ t => kr_Rq D (kr_W1 cy h a th N L A) cy AA t) AA) (by decide) (Nat.le_of_ble_eq_true rfl) ?_
  intro p e s m below meth c ls AA hx hb hml hr hts hown hlocks hin hA hP hK hD hS hl
  have hown : s.vm.findClass RX1 = some m.cls := hown
  have hl : lv_has ls 8 [(0, .ref h), (1, .int (nI q)), (2, .int (nI pl))] := hl
  have hN := hw.1
  have hL := hw.2.1
  obtain ⟨hrc, er⟩ := hw.rc hq
  obtain ⟨k0, hk0, ek0⟩ := hw.tk hq hp
  have hbst := kr_mb_bk hw hq hp
  refine lv_aload_n hx hb dX1_best_0 rfl (lv_at hl 0 rfl) ?_
  refine va_get (ci := 1) (v := .ref (a 6)) (C := RX1) (T := TX1) (N := 11) hx hb hts kr_wsX1 hown hK hP 0 rfl rfl 10 (by decide) (hts _ kq_552) (fun _ h9 => h9) rfl dX1_best_1 ?_
  refine lv_iconst (v := 5) hx hb dX1_best_4 (by decide) ?_
  refine lv_iload_n hx hb dX1_best_5 rfl (lv_at hl 1 rfl) ?_
  refine kr_imulN hx hb 5 q dX1_best_6 ?_
  refine lv_iload_n hx hb dX1_best_7 rfl (lv_at hl 2 rfl) ?_
  refine kr_iaddN hx hb (5 * q) pl dX1_best_8 ?_
  refine kr_ald hx hb hK hP 7 0 rfl rfl ((5 * q) + pl) (by omega) (by decide) dX1_best_9 ?_
  rw [ek0]
  refine lv_istore_n (lv' := [(3, .int (nI k0)), (0, .ref h), (1, .int (nI q)), (2, .int (nI pl))]) hx hb dX1_best_10 rfl hl (by decide) rfl (fun ls hl => ?_)
  refine lv_iconst (v := -1) hx hb dX1_best_11 (by decide) ?_
  refine lv_istore (lv' := [(4, .int (-1)), (3, .int (nI k0)), (0, .ref h), (1, .int (nI q)), (2, .int (nI pl))]) hx hb dX1_best_12 hl (by decide) rfl (fun ls hl => ?_)
  refine lv_iconst (v := 0) hx hb dX1_best_14 (by decide) ?_
  refine lv_istore (lv' := [(5, .int 0), (4, .int (-1)), (3, .int (nI k0)), (0, .ref h), (1, .int (nI q)), (2, .int (nI pl))]) hx hb dX1_best_15 hl (by decide) rfl (fun ls hl => ?_)
  refine lv_iconst (v := 0) hx hb dX1_best_17 (by decide) ?_
  refine lv_istore (lv' := [(6, .int 0), (5, .int 0), (4, .int (-1)), (3, .int (nI k0)), (0, .ref h), (1, .int (nI q)), (2, .int (nI pl))]) hx hb dX1_best_18 hl (by decide) rfl (fun ls hl => ?_)
  rw [← kr_rA_id ek0] at hP hD
  refine kr_lpH (nL := 8) (fun z : Nat × Int32 × Int32 × Nat => [(6, .int (nI z.1)), (5, .int z.2.2.1), (4, .int z.2.1), (3, .int (nI k0)), (0, .ref h), (1, .int (nI q)), (2, .int (nI pl))]) (fun z H locs => (z.1 ≤ N ∧ z.2.2.2 < N ∧ (z.2.1 = -1 ∨ ∃ j, j < N ∧ z.2.1 = nI j) ∧ kr_mb A N q (5 * q + pl) (kr_kd pl) (N - z.1) z.1 z.2.1 z.2.2.1 = kr_bk A N q pl) ∧ va_P D vwCl (kr_W1 cy h a th N L (kr_rA A (5 * q + pl) z.2.2.2)) H ∧ va_D AA (kr_W1 cy h a th N L (kr_rA A (5 * q + pl) z.2.2.2)) ∧ va_S AA s.heap H locs) (fun z => N - z.1) ?_ (0, -1, 0, k0) ⟨⟨by omega, hk0, Or.inl rfl, hbst⟩, hP, hD, hS⟩ (lv_sub hl [0, 1, 2, 3, 4, 5, 6] rfl)
  clear hl hP hD hS
  intro z H locs ls hI hl ih
  obtain ⟨i, b, g, t⟩ := z
  have hl : lv_has ls 8 [(6, .int (nI i)), (5, .int g), (4, .int b), (3, .int (nI k0)), (0, .ref h), (1, .int (nI q)), (2, .int (nI pl))] := hl
  obtain ⟨⟨hi0, ht, hb2, he⟩, hP, hD, hS⟩ : (i ≤ N ∧ t < N ∧ (b = -1 ∨ ∃ j, j < N ∧ b = nI j) ∧ kr_mb A N q (5 * q + pl) (kr_kd pl) (N - i) i b g = kr_bk A N q pl) ∧ va_P D vwCl (kr_W1 cy h a th N L (kr_rA A (5 * q + pl) t)) H ∧ va_D AA (kr_W1 cy h a th N L (kr_rA A (5 * q + pl) t)) ∧ va_S AA s.heap H locs := hI
  have hwt := kr_wf_r (i := 5 * q + pl) hw ht
  refine lv_iload hx hb dX1_best_20 (lv_at hl 0 rfl) ?_
  refine lv_aload_n hx hb dX1_best_22 rfl (lv_at hl 4 rfl) ?_
  refine va_get (ci := 1) (v := .int (nI N)) (C := RX1) (T := TX1) (N := 11) hx hb hts kr_wsX1 hown hK hP 0 rfl rfl 1 (by decide) (hts _ kq_543) (fun _ h9 => h9) rfl dX1_best_23 ?_
  refine lv_icmp_ge (tgt := 117) hx hb dX1_best_26 (by decide) (fun c26 => ?_) (fun c26 => ?_)
  · have hi2 : i = N := by have := kr_ge (by omega) (by omega) c26; omega
    rw [hi2, Nat.sub_self] at he
    refine lv_aload_n hx hb dX1_best_117 rfl (lv_at hl 4 rfl) ?_
    refine va_get (ci := 1) (v := .ref (a 6)) (C := RX1) (T := TX1) (N := 11) hx hb hts kr_wsX1 hown hK hP 0 rfl rfl 10 (by decide) (hts _ kq_552) (fun _ h9 => h9) rfl dX1_best_118 ?_
    refine lv_iconst (v := 5) hx hb dX1_best_121 (by decide) ?_
    refine lv_iload_n hx hb dX1_best_122 rfl (lv_at hl 5 rfl) ?_
    refine kr_imulN hx hb 5 q dX1_best_123 ?_
    refine lv_iload_n hx hb dX1_best_124 rfl (lv_at hl 6 rfl) ?_
    refine kr_iaddN hx hb (5 * q) pl dX1_best_125 ?_
    refine lv_iload_n hx hb dX1_best_126 rfl (lv_at hl 3 rfl) ?_
    refine kr_ast hx hb hK hP hD hS 7 0 rfl rfl ((5 * q) + pl) (by omega) (by decide) dX1_best_127 (fun H locs hP hD hS => ?_)
    have hP : va_P D vwCl (kr_W1 cy h a th N L (kr_up (kr_rA A (5 * q + pl) t) 6 (upd ((kr_rA A (5 * q + pl) t) 6) ((5 * q) + pl) (nI k0)))) H := hP
    have hD : va_D AA (kr_W1 cy h a th N L (kr_up (kr_rA A (5 * q + pl) t) 6 (upd ((kr_rA A (5 * q + pl) t) 6) ((5 * q) + pl) (nI k0)))) := hD
    rw [show kr_up (kr_rA A (5 * q + pl) t) 6 (upd ((kr_rA A (5 * q + pl) t) 6) ((5 * q) + pl) (nI k0)) = A from kr_rA_bk ek0] at hP hD
    refine lv_iload hx hb dX1_best_128 (lv_at hl 2 rfl) ?_
    exact kr_wI hx hb hr hlocks hP hK hD hS he dX1_best_130
  · have hi : i < N := kr_lt (by omega) (by omega) c26
    refine lv_aload_n hx hb dX1_best_29 rfl (lv_at hl 4 rfl) ?_
    refine va_get (ci := 1) (v := .ref (a 0)) (C := RX1) (T := TX1) (N := 11) hx hb hts kr_wsX1 hown hK hP 0 rfl rfl 2 (by decide) (hts _ kq_544) (fun _ h9 => h9) rfl dX1_best_30 ?_
    refine lv_iload hx hb dX1_best_33 (lv_at hl 0 rfl) ?_
    refine kr_ald hx hb hK hP 1 0 rfl rfl i (by omega) (by decide) dX1_best_35 ?_
    refine lv_iload_n hx hb dX1_best_36 rfl (lv_at hl 6 rfl) ?_
    rw [show (kr_rA A (5 * q + pl) t) 0 i = A 0 i from rfl]
    refine kr_sI (n := 1) (As := [.int (nI pl)]) (rest := [.int (A 0 i)]) ⟨hx, hb, hml, hown, hts⟩ (c_X1_kindAt l (nI pl)) kg_RX1_100 ⟨rfl, rfl⟩ (by decide +kernel) ⟨Nat.le_of_ble_eq_true rfl, Nat.le_of_ble_eq_true rfl⟩ ⟨kr_blT, fun U hU hW => ⟨rfl, trivial⟩⟩ rfl hl.1 rfl (Nat.le_of_ble_eq_true rfl) dX1_best_37 ⟨Nat.zero_le _, Nat.zero_le _⟩ (fun r9 e9 => ?_)
    subst e9
    rw [show (if nI pl = 0 then (1 : Int32) else 0) = kr_kd pl from rfl]
    refine lv_icmp_eq (tgt := 46) hx hb dX1_best_40 (by decide) (fun c40 => ?_) (fun c40 => ?_)
    · rw [kr_mb_y hi c40] at he
      refine lv_aload_n hx hb dX1_best_46 rfl (lv_at hl 4 rfl) ?_
      refine va_get (ci := 1) (v := .ref (a 6)) (C := RX1) (T := TX1) (N := 11) hx hb hts kr_wsX1 hown hK hP 0 rfl rfl 10 (by decide) (hts _ kq_552) (fun _ h9 => h9) rfl dX1_best_47 ?_
      refine lv_iconst (v := 5) hx hb dX1_best_50 (by decide) ?_
      refine lv_iload_n hx hb dX1_best_51 rfl (lv_at hl 5 rfl) ?_
      refine kr_imulN hx hb 5 q dX1_best_52 ?_
      refine lv_iload_n hx hb dX1_best_53 rfl (lv_at hl 6 rfl) ?_
      refine kr_iaddN hx hb (5 * q) pl dX1_best_54 ?_
      refine lv_iload hx hb dX1_best_55 (lv_at hl 0 rfl) ?_
      refine kr_ast hx hb hK hP hD hS 7 0 rfl rfl ((5 * q) + pl) (by omega) (by decide) dX1_best_57 (fun H locs hP hD hS => ?_)
      have hP : va_P D vwCl (kr_W1 cy h a th N L (kr_up (kr_rA A (5 * q + pl) t) 6 (upd ((kr_rA A (5 * q + pl) t) 6) ((5 * q) + pl) (nI i)))) H := hP
      have hD : va_D AA (kr_W1 cy h a th N L (kr_up (kr_rA A (5 * q + pl) t) 6 (upd ((kr_rA A (5 * q + pl) t) 6) ((5 * q) + pl) (nI i)))) := hD
      rw [show kr_up (kr_rA A (5 * q + pl) t) 6 (upd ((kr_rA A (5 * q + pl) t) 6) ((5 * q) + pl) (nI i)) = kr_rA A (5 * q + pl) i from kr_rA_tw _ _ _] at hP hD
      have hwi := kr_wf_r (i := 5 * q + pl) hw hi
      refine lv_aload_n hx hb dX1_best_58 rfl (lv_at hl 4 rfl) ?_
      refine lv_iload_n hx hb dX1_best_59 rfl (lv_at hl 5 rfl) ?_
      refine kr_vI (n := 1) (As := [.int (nI q)]) (rest := []) ⟨hx, hb, hml, hown, hts⟩ (c_X1_upTo l D cy h a th N L (kr_rA A (5 * q + pl) i) q hwi hq) kg_RX1_84 ⟨rfl, rfl⟩ (by decide +kernel) ⟨Nat.le_of_ble_eq_true rfl, Nat.le_of_ble_eq_true rfl⟩ (kr_pv1 hP hK) rfl hl.1 rfl (Nat.le_of_ble_eq_true rfl) dX1_best_60 ⟨Nat.zero_le _, Nat.zero_le _⟩ (fun r9 e9 => ?_)
      subst e9
      refine lv_istore (lv' := [(7, .int (kr_hu (kr_rA A (5 * q + pl) i) q)), (6, .int (nI i)), (5, .int g), (4, .int b), (3, .int (nI k0)), (0, .ref h), (1, .int (nI q)), (2, .int (nI pl))]) hx hb dX1_best_63 hl (by decide) rfl (fun ls hl => ?_)
      refine lv_iload hx hb dX1_best_65 (lv_at hl 3 rfl) ?_
      refine lv_iconst (v := -1) hx hb dX1_best_67 (by decide) ?_
      refine lv_icmp_eq (tgt := 103) hx hb dX1_best_68 (by decide) (fun c68 => ?_) (fun c68 => ?_)
      · rw [if_neg (fun w => w.1 c68)] at he
        refine lv_iload hx hb dX1_best_103 (lv_at hl 1 rfl) ?_
        refine lv_istore (lv' := [(4, .int (nI i)), (7, .int (kr_hu (kr_rA A (5 * q + pl) i) q)), (6, .int (nI i)), (5, .int g), (3, .int (nI k0)), (0, .ref h), (1, .int (nI q)), (2, .int (nI pl))]) hx hb dX1_best_105 hl (by decide) rfl (fun ls hl => ?_)
        refine lv_iload hx hb dX1_best_107 (lv_at hl 1 rfl) ?_
        refine lv_istore (lv' := [(5, .int (kr_hu (kr_rA A (5 * q + pl) i) q)), (4, .int (nI i)), (7, .int (kr_hu (kr_rA A (5 * q + pl) i) q)), (6, .int (nI i)), (3, .int (nI k0)), (0, .ref h), (1, .int (nI q)), (2, .int (nI pl))]) hx hb dX1_best_109 hl (by decide) rfl (fun ls hl => ?_)
        refine lv_iinc (v := nI (i + 1)) (lv' := [(6, .int (nI (i + 1))), (5, .int (kr_hu (kr_rA A (5 * q + pl) i) q)), (4, .int (nI i)), (7, .int (kr_hu (kr_rA A (5 * q + pl) i) q)), (3, .int (nI k0)), (0, .ref h), (1, .int (nI q)), (2, .int (nI pl))]) hx hb dX1_best_111 hl (k := 3) rfl (kr_inc _) (by decide) rfl (fun ls hl => ?_)
        refine lv_goto (tgt := 20) hx hb dX1_best_114 (by decide) ?_
        exact ih (i + 1, nI i, kr_hu (kr_rA A (5 * q + pl) i) q, i) _ _ ls ⟨⟨by omega, hi, Or.inr ⟨i, hi, rfl⟩, he⟩, hP, hD, hS⟩ (by show N - (i + 1) < N - i; omega) (lv_sub hl [0, 1, 2, 4, 5, 6, 7] rfl)
      · obtain ⟨j, hj, rfl⟩ := hb2.resolve_left c68
        rw [kr_ix_nI (by omega)] at he
        refine lv_iload hx hb dX1_best_71 (lv_at hl 0 rfl) ?_
        refine lv_iload hx hb dX1_best_73 (lv_at hl 2 rfl) ?_
        refine lv_icmp_lt (tgt := 111) hx hb dX1_best_75 (by decide) (fun c75 => ?_) (fun c75 => ?_)
        · rw [if_pos ⟨c68, Or.inl c75⟩] at he
          refine lv_iinc (v := nI (i + 1)) (lv' := [(6, .int (nI (i + 1))), (7, .int (kr_hu (kr_rA A (5 * q + pl) i) q)), (5, .int g), (4, .int (nI j)), (3, .int (nI k0)), (0, .ref h), (1, .int (nI q)), (2, .int (nI pl))]) hx hb dX1_best_111 hl (k := 1) rfl (kr_inc _) (by decide) rfl (fun ls hl => ?_)
          refine lv_goto (tgt := 20) hx hb dX1_best_114 (by decide) ?_
          exact ih (i + 1, nI j, g, i) _ _ ls ⟨⟨by omega, hi, Or.inr ⟨j, hj, rfl⟩, he⟩, hP, hD, hS⟩ (by show N - (i + 1) < N - i; omega) (lv_sub hl [0, 2, 3, 4, 5, 6, 7] rfl)
        · refine lv_iload hx hb dX1_best_78 (lv_at hl 0 rfl) ?_
          refine lv_iload hx hb dX1_best_80 (lv_at hl 2 rfl) ?_
          refine lv_icmp_ne (tgt := 103) hx hb dX1_best_82 (by decide) (fun c82 => ?_) (fun c82 => ?_)
          · rw [if_neg (fun w => w.2.elim c75 (fun v => c82 v.1))] at he
            refine lv_iload hx hb dX1_best_103 (lv_at hl 1 rfl) ?_
            refine lv_istore (lv' := [(4, .int (nI i)), (7, .int (kr_hu (kr_rA A (5 * q + pl) i) q)), (6, .int (nI i)), (5, .int g), (3, .int (nI k0)), (0, .ref h), (1, .int (nI q)), (2, .int (nI pl))]) hx hb dX1_best_105 hl (by decide) rfl (fun ls hl => ?_)
            refine lv_iload hx hb dX1_best_107 (lv_at hl 1 rfl) ?_
            refine lv_istore (lv' := [(5, .int (kr_hu (kr_rA A (5 * q + pl) i) q)), (4, .int (nI i)), (7, .int (kr_hu (kr_rA A (5 * q + pl) i) q)), (6, .int (nI i)), (3, .int (nI k0)), (0, .ref h), (1, .int (nI q)), (2, .int (nI pl))]) hx hb dX1_best_109 hl (by decide) rfl (fun ls hl => ?_)
            refine lv_iinc (v := nI (i + 1)) (lv' := [(6, .int (nI (i + 1))), (5, .int (kr_hu (kr_rA A (5 * q + pl) i) q)), (4, .int (nI i)), (7, .int (kr_hu (kr_rA A (5 * q + pl) i) q)), (3, .int (nI k0)), (0, .ref h), (1, .int (nI q)), (2, .int (nI pl))]) hx hb dX1_best_111 hl (k := 3) rfl (kr_inc _) (by decide) rfl (fun ls hl => ?_)
            refine lv_goto (tgt := 20) hx hb dX1_best_114 (by decide) ?_
            exact ih (i + 1, nI i, kr_hu (kr_rA A (5 * q + pl) i) q, i) _ _ ls ⟨⟨by omega, hi, Or.inr ⟨i, hi, rfl⟩, he⟩, hP, hD, hS⟩ (by show N - (i + 1) < N - i; omega) (lv_sub hl [0, 1, 2, 4, 5, 6, 7] rfl)
          · have l1 := kr_rk_le (A := A) (k := i) N
            have l2 := kr_rk_le (A := A) (k := j) N
            refine lv_aload_n hx hb dX1_best_85 rfl (lv_at hl 5 rfl) ?_
            refine lv_iload hx hb dX1_best_86 (lv_at hl 3 rfl) ?_
            refine kr_vI (n := 1) (As := [.int (nI j)]) (rest := []) ⟨hx, hb, hml, hown, hts⟩ (c_X1_rank l D cy h a th N L (kr_rA A (5 * q + pl) i) j (by omega) (by omega)) kg_RX1_116 ⟨rfl, rfl⟩ (by decide +kernel) ⟨Nat.le_of_ble_eq_true rfl, Nat.le_of_ble_eq_true rfl⟩ (kr_pv1 hP hK) rfl hl.1 rfl (Nat.le_of_ble_eq_true rfl) dX1_best_88 ⟨Nat.zero_le _, Nat.zero_le _⟩ (fun r9 e9 => ?_)
            rw [kr_rk_cg (A := A) (A' := kr_rA A (5 * q + pl) i) rfl rfl rfl] at e9
            subst e9
            refine lv_aload_n hx hb dX1_best_91 rfl (lv_at hl 5 rfl) ?_
            refine lv_iload hx hb dX1_best_92 (lv_at hl 1 rfl) ?_
            refine kr_vI (n := 1) (As := [.int (nI i)]) (rest := [.int (nI (kr_rk A j N))]) ⟨hx, hb, hml, hown, hts⟩ (c_X1_rank l D cy h a th N L (kr_rA A (5 * q + pl) i) i (by omega) (by omega)) kg_RX1_116 ⟨rfl, rfl⟩ (by decide +kernel) ⟨Nat.le_of_ble_eq_true rfl, Nat.le_of_ble_eq_true rfl⟩ (kr_pv1 hP hK) rfl hl.1 rfl (Nat.le_of_ble_eq_true rfl) dX1_best_94 ⟨Nat.zero_le _, Nat.zero_le _⟩ (fun r9 e9 => ?_)
            rw [kr_rk_cg (A := A) (A' := kr_rA A (5 * q + pl) i) rfl rfl rfl] at e9
            subst e9
            refine lv_icmp_ge (tgt := 103) hx hb dX1_best_97 (by decide) (fun c97 => ?_) (fun c97 => ?_)
            · rw [if_neg (fun w => w.2.elim c75 (fun v => by have := kr_ge (by omega) (by omega) c97; have := v.2; omega))] at he
              refine lv_iload hx hb dX1_best_103 (lv_at hl 1 rfl) ?_
              refine lv_istore (lv' := [(4, .int (nI i)), (7, .int (kr_hu (kr_rA A (5 * q + pl) i) q)), (6, .int (nI i)), (5, .int g), (3, .int (nI k0)), (0, .ref h), (1, .int (nI q)), (2, .int (nI pl))]) hx hb dX1_best_105 hl (by decide) rfl (fun ls hl => ?_)
              refine lv_iload hx hb dX1_best_107 (lv_at hl 1 rfl) ?_
              refine lv_istore (lv' := [(5, .int (kr_hu (kr_rA A (5 * q + pl) i) q)), (4, .int (nI i)), (7, .int (kr_hu (kr_rA A (5 * q + pl) i) q)), (6, .int (nI i)), (3, .int (nI k0)), (0, .ref h), (1, .int (nI q)), (2, .int (nI pl))]) hx hb dX1_best_109 hl (by decide) rfl (fun ls hl => ?_)
              refine lv_iinc (v := nI (i + 1)) (lv' := [(6, .int (nI (i + 1))), (5, .int (kr_hu (kr_rA A (5 * q + pl) i) q)), (4, .int (nI i)), (7, .int (kr_hu (kr_rA A (5 * q + pl) i) q)), (3, .int (nI k0)), (0, .ref h), (1, .int (nI q)), (2, .int (nI pl))]) hx hb dX1_best_111 hl (k := 3) rfl (kr_inc _) (by decide) rfl (fun ls hl => ?_)
              refine lv_goto (tgt := 20) hx hb dX1_best_114 (by decide) ?_
              exact ih (i + 1, nI i, kr_hu (kr_rA A (5 * q + pl) i) q, i) _ _ ls ⟨⟨by omega, hi, Or.inr ⟨i, hi, rfl⟩, he⟩, hP, hD, hS⟩ (by show N - (i + 1) < N - i; omega) (lv_sub hl [0, 1, 2, 4, 5, 6, 7] rfl)
            · rw [if_pos ⟨c68, Or.inr ⟨c82, kr_lt (by omega) (by omega) c97⟩⟩] at he
              refine lv_goto (tgt := 111) hx hb dX1_best_100 (by decide) ?_
              refine lv_iinc (v := nI (i + 1)) (lv' := [(6, .int (nI (i + 1))), (7, .int (kr_hu (kr_rA A (5 * q + pl) i) q)), (5, .int g), (4, .int (nI j)), (3, .int (nI k0)), (0, .ref h), (1, .int (nI q)), (2, .int (nI pl))]) hx hb dX1_best_111 hl (k := 1) rfl (kr_inc _) (by decide) rfl (fun ls hl => ?_)
              refine lv_goto (tgt := 20) hx hb dX1_best_114 (by decide) ?_
              exact ih (i + 1, nI j, g, i) _ _ ls ⟨⟨by omega, hi, Or.inr ⟨j, hj, rfl⟩, he⟩, hP, hD, hS⟩ (by show N - (i + 1) < N - i; omega) (lv_sub hl [0, 2, 3, 4, 5, 6, 7] rfl)
    · rw [kr_mb_n hi c40] at he
      refine lv_goto (tgt := 111) hx hb dX1_best_43 (by decide) ?_
      refine lv_iinc (v := nI (i + 1)) (lv' := [(6, .int (nI (i + 1))), (5, .int g), (4, .int b), (3, .int (nI k0)), (0, .ref h), (1, .int (nI q)), (2, .int (nI pl))]) hx hb dX1_best_111 hl (k := 0) rfl (kr_inc _) (by decide) rfl (fun ls hl => ?_)
      refine lv_goto (tgt := 20) hx hb dX1_best_114 (by decide) ?_
      exact ih (i + 1, b, g, t) _ _ ls ⟨⟨by omega, ht, hb2, he⟩, hP, hD, hS⟩ (by show N - (i + 1) < N - i; omega) (lv_sub hl [0, 1, 2, 3, 4, 5, 6] rfl)
theorem kg_RX1_134 : GoodIn kr_all (wsV RX1 134 RX1 yX1_best (Cond.code yX1_best cX1_best 8 (some .int) :: kr_all)) := kr_gV kq_787 kq_789 kq_45 kq_49 kq_790
set_option maxHeartbeats 4000000 in
set_option maxRecDepth 100000 in
theorem c_X1_bestKnot (l : Launch) (D : va_G) (cy : ClassId) (h : Nat) (a : Nat → Nat) (th : Int32) (N L : Nat) (A : Nat → Nat → Int32) (sz : Nat) (x y : Int32) (hw : kr_wf N L A) : Met l yX1_bestKnot (Cond.code yX1_bestKnot cX1_bestKnot 3 (some .int) :: kr_all) ({ frames := 5, cells := 0, slots := 0, locals := 113 }) (va_Pc [.ref h, .int x, .int y] (kr_Rw D (kr_W1 cy h a th N L A) cy sz)) (va_Qi (fun r (_ : Unit) => kr_cd (kr_q L A x y) True True = 0 → r = kr_bk A N (kr_ix x) (kr_ix y)) (fun _ t => kr_Rq D (kr_W1 cy h a (kr_cd (kr_q L A x y) True True) N L A) cy (va_A (kr_W1 cy h a th N L A) sz) t) (va_A (kr_W1 cy h a th N L A) sz)) 0 0 (va_A (kr_W1 cy h a th N L A) sz) := by
  refine kr_ofw (Qc := fun AA => va_Qi (fun r (_ : Unit) => kr_cd (kr_q L A x y) True True = 0 → r = kr_bk A N (kr_ix x) (kr_ix y)) (fun _ t => kr_Rq D (kr_W1 cy h a (kr_cd (kr_q L A x y) True True) N L A) cy AA t) AA) (by decide) (Nat.le_of_ble_eq_true rfl) ?_
  intro p e s m below meth c ls AA hx hb hml hr hts hown hlocks hin hA hP hK hD hS hl
  have hown : s.vm.findClass RX1 = some m.cls := hown
  have hl : lv_has ls 3 [(0, .ref h), (1, .int x), (2, .int y)] := hl
  have hL := hw.2.1
  refine lv_aload_n hx hb dX1_bestKnot_0 rfl (lv_at hl 0 rfl) ?_
  refine lv_iconst (v := 0) hx hb dX1_bestKnot_1 (by decide) ?_
  refine va_put (ci := 1) (v := .int 0) (ty := .int) (C := RX1) (T := TX1) (N := 11) hx hb hts kr_wsX1 tyX1 tyX1_ok nmX1 hown hK hP hD hS 0 rfl rfl 0 (by decide) (hts _ kq_542) (fun _ h9 => h9) rfl (by decide +kernel) rfl rfl (Nat.le_of_ble_eq_true rfl) dX1_bestKnot_2 (fun H locs hP hD hS => ?_)
  have hP : va_P D vwCl (kr_W1 cy h a 0 N L A) H := hP
  have hD : va_D AA (kr_W1 cy h a 0 N L A) := hD
  refine lv_aload_n hx hb dX1_bestKnot_5 rfl (lv_at hl 0 rfl) ?_
  refine lv_iload_n hx hb dX1_bestKnot_6 rfl (lv_at hl 1 rfl) ?_
  refine lv_iload_n hx hb dX1_bestKnot_7 rfl (lv_at hl 2 rfl) ?_
  refine kr_vI (n := 2) (As := [.int x, .int y]) (rest := []) ⟨hx, hb, hml, hown, hts⟩ (c_X1_isPlace l D cy h a 0 N L A x y hw) kg_RX1_97 ⟨rfl, rfl⟩ (by decide +kernel) ⟨Nat.le_of_ble_eq_true rfl, Nat.le_of_ble_eq_true rfl⟩ (kr_pv1 hP hK) rfl hl.1 rfl (Nat.le_of_ble_eq_true rfl) dX1_bestKnot_8 ⟨Nat.zero_le _, Nat.zero_le _⟩ (fun r9 e9 => ?_)
  subst e9
  refine lv_if_eq (tgt := 23) hx hb dX1_bestKnot_11 (by decide) (fun c11 => ?_) (fun c11 => ?_)
  · rw [kr_cd1 (kr_if0 c11)]
    refine lv_aload_n hx hb dX1_bestKnot_23 rfl (lv_at hl 0 rfl) ?_
    refine lv_iconst (v := 1) hx hb dX1_bestKnot_24 (by decide) ?_
    refine kr_wvI (n := 1) (As := [.int 1]) (rest := []) ⟨hx, hb, hml, hown, hts⟩ (c_X1_no l D cy h a 0 N L A H.size 1) kg_RX1_88 ⟨rfl, rfl⟩ (by decide +kernel) ⟨Nat.le_of_ble_eq_true rfl, Nat.le_of_ble_eq_true rfl⟩ (va_recv hK hP (ci := 1) (q0 := 0) rfl rfl) hP hK hD hS hA rfl hl.1 rfl (Nat.le_of_ble_eq_true rfl) dX1_bestKnot_25 ⟨Nat.le_of_ble_eq_true rfl, Nat.le_of_ble_eq_true rfl⟩ (fun r9 u9 H locs e9 hP hD hS => ?_)
    subst e9
    exact kr_wI hx hb hr hlocks hP hK hD hS (fun z => absurd z (by decide)) dX1_bestKnot_28
  · have hk := kr_if1 c11
    rw [kr_cd0 hk trivial trivial]
    obtain ⟨q, pl, hq, hp, rfl, rfl⟩ := kr_inP hw hk
    obtain ⟨hrc, er⟩ := hw.rc hq
    refine lv_aload_n hx hb dX1_bestKnot_14 rfl (lv_at hl 0 rfl) ?_
    refine lv_iload_n hx hb dX1_bestKnot_15 rfl (lv_at hl 1 rfl) ?_
    refine lv_iload_n hx hb dX1_bestKnot_16 rfl (lv_at hl 2 rfl) ?_
    refine kr_wvI (n := 2) (As := [.int (nI q), .int (nI pl)]) (rest := []) ⟨hx, hb, hml, hown, hts⟩ (c_X1_best l D cy h a 0 N L A H.size q pl hw (by omega) (by omega)) kg_RX1_134 ⟨rfl, rfl⟩ (by decide +kernel) ⟨Nat.le_of_ble_eq_true rfl, Nat.le_of_ble_eq_true rfl⟩ (va_recv hK hP (ci := 1) (q0 := 0) rfl rfl) hP hK hD hS hA rfl hl.1 rfl (Nat.le_of_ble_eq_true rfl) dX1_bestKnot_17 ⟨Nat.le_of_ble_eq_true rfl, Nat.le_of_ble_eq_true rfl⟩ (fun r9 u9 H locs e9 hP hD hS => ?_)
    subst e9
    refine lv_goto (tgt := 28) hx hb dX1_bestKnot_20 (by decide) ?_
    exact kr_wI hx hb hr hlocks hP hK hD hS (fun _ => by rw [kr_ix_nI (by omega), kr_ix_nI (by omega)]) dX1_bestKnot_28
