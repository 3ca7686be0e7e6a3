theorem kr_Sk {AA : Nat → Prop} {H0 H H1 : Heap} {locs : List Loc} (hS : va_S AA H0 H locs) (hz : H.size ≤ H1.size) (hk : ∀ b : Nat, b < H.size → H1[b]? = H[b]?) : va_S AA H0 H1 locs := ⟨Nat.le_trans hS.1 hz, fun q h1 h2 => (hk q (Nat.lt_of_lt_of_le h1 hS.1)).trans (hS.2.1 q h1 h2), hS.2.2⟩
theorem kr_Swk {AA BB : Nat → Prop} {H0 H : Heap} {locs : List Loc} (hS : va_S AA H0 H locs) (h : ∀ q, AA q → BB q) : va_S BB H0 H locs := ⟨hS.1, fun q h1 h2 => hS.2.1 q h1 (fun w => h2 (h q w)), fun z hz => h _ (hS.2.2 z hz)⟩
theorem kr_rgN {z lo hi : Nat} (h1 : lo ≤ z) (h2 : z ≤ hi) (h3 : hi < 2 ^ 31) : ¬ nI z < nI lo ∧ ¬ nI hi < nI z := ⟨nI_nlt h1 (by omega), nI_nlt h2 h3⟩
theorem kr_iN {z n : Nat} (h : z < n) (hn : n < 2 ^ 31) : kr_i n (nI z) := ⟨nI_pos (by omega), nI_ge h hn⟩
theorem kg_RL_18 : GoodIn kr_all (wsS RL 18 yL_below (Cond.code yL_below cL_below 2 (some .int) :: kr_all)) := kr_gS kq_453 kq_454 kq_24 kq_455
theorem kg_RL_50 : GoodIn kr_all (wsV RL 50 RX0 yX0_retie (Cond.code yX0_retie cX0_retie 6 (some .int) :: kr_all)) := kr_gV kq_74 kq_75 kq_76 kq_25 kq_77
set_option maxHeartbeats 4000000 in
set_option maxRecDepth 100000 in
theorem act_c10 {p : Program} {l : Launch} {e : Env} {s : State} {m : MethodId} {below : List Frame} {meth : Method} {c : Code} {ls : Array Slot} {D : va_G} {cy cz : ClassId} {h g N L q k d : Nat} {a : Nat → Nat} {ad : Nat → Nat → Nat} {A : Nat → Nat → Int32} {x : Int32} {AA : Nat → Prop} (hl0 : l.stackTraces = false) (hx : p.tables.exec = Jvm.exec) (hb : c.code = cL_act) (hml : c.maxLocals = 10) (hr : meth.sig.returnType = some .boolean) (hts : ∀ w ∈ kr_all, w.before #[Value.ref h, Value.ref g, Value.int x] s = true) (hown : s.vm.findClass RL = some m.cls) (hlocks : meth.locks = false) (htab : c.exceptionTable.toList = tableOf kr_hh) (hA : ∀ q : Nat, s.heap.size ≤ q → AA q) (hK : va_K D vwCl [(cy, .int), (cz, .array .int)] s) (hZ : kr_AO s) (hT : kr_T s) (hw : kr_wf N L A) (hx0 : kr_wx N L A) (hN2 : 2 ≤ N) (hL1 : 1 ≤ L) (hq : q < L) (hk : k < N) (hd1 : 1 ≤ d) (hd2 : d ≤ 999) (hJ : va_P D vwCl (kr_JW cy cz h a g ad N L A) s.heap) (hD : va_D AA (kr_JW cy cz h a g ad N L A)) (hS : va_S AA s.heap s.heap []) (hl : lv_has ls 10 [(0, .ref h), (1, .ref g), (2, .int x), (3, .int (nI N)), (4, .int (nI q)), (5, .int (nI k)), (6, .int (nI d)), (7, .int (if N < 16 then (1 : Int32) else 0))]) : W p l e ({ frames := 10, cells := 20, slots := 80, locals := 300 } : Room) s m #[Value.ref h, Value.ref g, Value.int x] below meth c s.heap [] 0 0 (MQ below (kr_AQ D cy cz h a g AA) #[Value.ref h, Value.ref g, Value.int x] s 20 80 AA) (F0 m 628 ls []) := by
  have hN := hw.1
  have hL := hw.2.1
  obtain ⟨hrc, er⟩ := hw.rc hq
  have hP : va_P D vwCl (kr_SW cy cz g ad N L A) s.heap := kr_Pr hJ
  refine lv_aload_n hx hb dL_act_628 rfl (lv_at hl 1 rfl) ?_
  refine va_get (ci := 1) (v := .ref (ad 0 1)) (C := RX1) (T := TX1) (N := 3) hx hb hts kr_wsX1 hown hK hP 0 rfl rfl 1 (by decide) (hts _ kq_514) (fun _ h9 => h9) rfl dL_act_629 ?_
  refine kr_lnO hx hb hK hP 1 L rfl dL_act_632 ?_
  refine lv_if_eq (tgt := 647) hx hb dL_act_633 (by decide) (fun c633 => absurd ((nI_eq (a := L) (b := 0) (by omega) (by decide)).mp c633) (by omega)) (fun c633 => ?_)
  refine lv_aload_n hx hb dL_act_636 rfl (lv_at hl 1 rfl) ?_
  refine va_get (ci := 1) (v := .ref (ad 0 1)) (C := RX1) (T := TX1) (N := 3) hx hb hts kr_wsX1 hown hK hP 0 rfl rfl 1 (by decide) (hts _ kq_514) (fun _ h9 => h9) rfl dL_act_637 ?_
  refine lv_iload hx hb dL_act_640 (lv_at hl 4 rfl) ?_
  refine kr_rdO hx hb hK hP 1 L rfl q (by omega) (by omega) dL_act_642 ?_
  refine kr_lnR hx hb hK hP (by omega) dL_act_643 ?_
  refine lv_if_ne (tgt := 649) hx hb dL_act_644 (by decide) (fun c644 => ?_) (fun c644 => ?_)
  · have hr0 : 0 < kr_rc A q := Nat.pos_of_ne_zero (fun w => c644 (by rw [w]; rfl))
    refine lv_iconst (v := 1) hx hb dL_act_649 (by decide) ?_
    refine lv_istore (lv' := [(7, .int 1), (0, .ref h), (1, .ref g), (2, .int x), (3, .int (nI N)), (4, .int (nI q)), (5, .int (nI k)), (6, .int (nI d))]) hx hb dL_act_650 hl (by decide) rfl (fun ls hl => ?_)
    refine lv_iload_n hx hb dL_act_652 rfl (lv_at hl 3 rfl) ?_
    refine lv_iconst (v := 4) hx hb dL_act_653 (by decide) ?_
    refine lv_ishr hx hb dL_act_654 ?_
    refine lv_aload_n hx hb dL_act_655 rfl (lv_at hl 2 rfl) ?_
    refine va_get (ci := 1) (v := .ref (ad 0 1)) (C := RX1) (T := TX1) (N := 3) hx hb hts kr_wsX1 hown hK hP 0 rfl rfl 1 (by decide) (hts _ kq_514) (fun _ h9 => h9) rfl dL_act_656 ?_
    refine lv_iload hx hb dL_act_659 (lv_at hl 5 rfl) ?_
    refine kr_rdO hx hb hK hP 1 L rfl q (by omega) (by omega) dL_act_661 ?_
    refine kr_lnR hx hb hK hP (by omega) dL_act_662 ?_
    refine kr_sI (n := 2) (As := [.int (x >>> (4 &&& 31)), .int (nI (kr_rc A q))]) (rest := []) ⟨hx, hb, hml, hown, hts⟩ (c_L_below l (x >>> (4 &&& 31)) (kr_rc A q) (by omega) (by omega)) kg_RL_18 ⟨rfl, rfl⟩ (by decide +kernel) ⟨Nat.le_of_ble_eq_true rfl, Nat.le_of_ble_eq_true rfl⟩ ⟨kr_blT, fun U hU hW => ⟨rfl, trivial⟩⟩ rfl hl.1 rfl (Nat.le_of_ble_eq_true rfl) dL_act_663 ⟨Nat.le_of_ble_eq_true rfl, Nat.le_of_ble_eq_true rfl⟩ (fun r9 e9 => ?_)
    obtain ⟨pl, hpl, rfl⟩ := e9
    refine lv_istore (lv' := [(8, .int (nI pl)), (7, .int 1), (0, .ref h), (1, .ref g), (2, .int x), (3, .int (nI N)), (4, .int (nI q)), (5, .int (nI k)), (6, .int (nI d))]) hx hb dL_act_666 hl (by decide) rfl (fun ls hl => ?_)
    refine lv_aload_n hx hb dL_act_668 rfl (lv_at hl 3 rfl) ?_
    refine va_get (ci := 1) (v := .ref (ad 0 0)) (C := RX1) (T := TX1) (N := 3) hx hb hts kr_wsX1 hown hK hP 0 rfl rfl 0 (by decide) (hts _ kq_512) (fun _ h9 => h9) rfl dL_act_669 ?_
    refine lv_iload hx hb dL_act_672 (lv_at hl 7 rfl) ?_
    refine kr_rdO hx hb hK hP 0 N rfl k (by omega) (by omega) dL_act_674 ?_
    refine lv_iconst (v := 0) hx hb dL_act_675 (by decide) ?_
    refine kr_rdK hx hb hK hP (k := k) (by omega) 0 (by decide) dL_act_676 ?_
    refine lv_iload hx hb dL_act_677 (lv_at hl 0 rfl) ?_
    refine lv_if_ne (tgt := 686) hx hb dL_act_679 (by decide) (fun c679 => ?_) (fun c679 => ?_)
    · have hp0 : ¬ nI pl = 0 := c679
      refine lv_iconst (v := 0) hx hb dL_act_686 (by decide) ?_
      refine lv_icmp_eq (tgt := 692) hx hb dL_act_687 (by decide) (fun c687 => ?_) (fun c687 => ?_)
      · refine lv_aload_n hx hb dL_act_692 rfl (lv_at hl 3 rfl) ?_
        refine va_get (ci := 1) (v := .ref (ad 0 2)) (C := RX1) (T := TX1) (N := 3) hx hb hts kr_wsX1 hown hK hP 0 rfl rfl 2 (by decide) (hts _ kq_516) (fun _ h9 => h9) rfl dL_act_693 ?_
        refine lv_iload hx hb dL_act_696 (lv_at hl 6 rfl) ?_
        refine kr_rdO hx hb hK hP 2 L rfl q (by omega) (by omega) dL_act_698 ?_
        refine lv_iload hx hb dL_act_699 (lv_at hl 0 rfl) ?_
        refine kr_rdT hx hb hK hP (q := q) hq pl hpl (by omega) dL_act_701 ?_
        refine lv_istore (lv' := [(9, .int (A 6 (5 * q + pl))), (8, .int (nI pl)), (7, .int 1), (0, .ref h), (1, .ref g), (2, .int x), (3, .int (nI N)), (4, .int (nI q)), (5, .int (nI k)), (6, .int (nI d))]) hx hb dL_act_702 hl (by decide) rfl (fun ls hl => ?_)
        refine lv_aload_n hx hb dL_act_704 rfl (lv_at hl 4 rfl) ?_
        refine va_get (ci := 1) (v := .ref (ad 0 2)) (C := RX1) (T := TX1) (N := 3) hx hb hts kr_wsX1 hown hK hP 0 rfl rfl 2 (by decide) (hts _ kq_516) (fun _ h9 => h9) rfl dL_act_705 ?_
        refine lv_iload hx hb dL_act_708 (lv_at hl 7 rfl) ?_
        refine kr_rdO hx hb hK hP 2 L rfl q (by omega) (by omega) dL_act_710 ?_
        refine lv_iload hx hb dL_act_711 (lv_at hl 1 rfl) ?_
        refine lv_iload hx hb dL_act_713 (lv_at hl 8 rfl) ?_
        refine kr_wrT (w := kr_W0 cy h a N L A) hx hb hK hJ hD hS hq pl hpl (fun j hj => (hw.rc hj).1) dL_act_715 (fun H locs hJ hD hS => ?_)
        have hJ : va_P D vwCl (kr_W0 cy h a N L A ++ kr_SW cy cz g ad N L (kr_rA A (5 * q + pl) k)) H := hJ
        have hD : va_D AA (kr_W0 cy h a N L A ++ kr_SW cy cz g ad N L (kr_rA A (5 * q + pl) k)) := hD
        refine lv_aload_n hx hb dL_act_716 rfl (lv_at hl 3 rfl) ?_
        refine lv_iload hx hb dL_act_717 (lv_at hl 7 rfl) ?_
        refine lv_iload hx hb dL_act_719 (lv_at hl 1 rfl) ?_
        refine lv_iload hx hb dL_act_721 (lv_at hl 8 rfl) ?_
        have he : A 0 k = if nI pl = 0 then (1 : Int32) else 0 := by rw [if_neg hp0]; exact c687
        have hpl0 : ¬ pl = 0 := fun w => hp0 (by rw [w]; rfl)
        have he2 : A 0 k = if pl = 0 then (1 : Int32) else 0 := c687.trans (if_neg hpl0).symm
        refine kr_jwI (n := 3) (As := [.int (nI q), .int (nI pl), .int (nI k)]) (rest := []) ⟨hx, hb, hml, hown, hts⟩ (c_X0_retie l D cy h a N L A _ q pl k hw hq hpl hk he) kg_RL_50 ⟨rfl, rfl⟩ (by decide +kernel) ⟨Nat.le_of_ble_eq_true rfl, Nat.le_of_ble_eq_true rfl⟩ hJ hK hD hS hA rfl hl.1 rfl (Nat.le_of_ble_eq_true rfl) dL_act_723 ⟨Nat.le_of_ble_eq_true rfl, Nat.le_of_ble_eq_true rfl⟩ (fun r9 H locs e9 hJ hD hS => ?_)
        subst e9
        refine lv_iload hx hb dL_act_726 (lv_at hl 0 rfl) ?_
        refine lv_icmp_ne (tgt := 735) hx hb dL_act_728 (by decide) (fun c728 => absurd rfl c728) (fun c728 => ?_)
        refine lv_iconst (v := 1) hx hb dL_act_731 (by decide) ?_
        refine lv_goto (tgt := 736) hx hb dL_act_732 (by decide) ?_
        refine W.widen (k := 20) (n := 80) (Nat.le_of_ble_eq_true rfl) (Nat.le_of_ble_eq_true rfl) ?_
        exact kr_aE (N, L, kr_rA A (5 * q + pl) k, ad) hx hb hr hlocks hJ hD hS ⟨kr_wf_r hw hk, kr_wx_r hw hx0 hq hpl hk he2, hN2, hL1⟩ dL_act_736
      · refine lv_iconst (v := 1) hx hb dL_act_690 (by decide) ?_
        refine W.widen (k := 20) (n := 80) (Nat.le_of_ble_eq_true rfl) (Nat.le_of_ble_eq_true rfl) ?_
        exact kr_aE (N, L, A, ad) hx hb hr hlocks hJ hD hS ⟨hw, hx0, hN2, hL1⟩ dL_act_691
    · have hp0 : nI pl = 0 := c679
      refine lv_iconst (v := 1) hx hb dL_act_682 (by decide) ?_
      refine lv_goto (tgt := 687) hx hb dL_act_683 (by decide) ?_
      refine lv_icmp_eq (tgt := 692) hx hb dL_act_687 (by decide) (fun c687 => ?_) (fun c687 => ?_)
      · refine lv_aload_n hx hb dL_act_692 rfl (lv_at hl 3 rfl) ?_
        refine va_get (ci := 1) (v := .ref (ad 0 2)) (C := RX1) (T := TX1) (N := 3) hx hb hts kr_wsX1 hown hK hP 0 rfl rfl 2 (by decide) (hts _ kq_516) (fun _ h9 => h9) rfl dL_act_693 ?_
        refine lv_iload hx hb dL_act_696 (lv_at hl 6 rfl) ?_
        refine kr_rdO hx hb hK hP 2 L rfl q (by omega) (by omega) dL_act_698 ?_
        refine lv_iload hx hb dL_act_699 (lv_at hl 0 rfl) ?_
        refine kr_rdT hx hb hK hP (q := q) hq pl hpl (by omega) dL_act_701 ?_
        refine lv_istore (lv' := [(9, .int (A 6 (5 * q + pl))), (8, .int (nI pl)), (7, .int 1), (0, .ref h), (1, .ref g), (2, .int x), (3, .int (nI N)), (4, .int (nI q)), (5, .int (nI k)), (6, .int (nI d))]) hx hb dL_act_702 hl (by decide) rfl (fun ls hl => ?_)
        refine lv_aload_n hx hb dL_act_704 rfl (lv_at hl 4 rfl) ?_
        refine va_get (ci := 1) (v := .ref (ad 0 2)) (C := RX1) (T := TX1) (N := 3) hx hb hts kr_wsX1 hown hK hP 0 rfl rfl 2 (by decide) (hts _ kq_516) (fun _ h9 => h9) rfl dL_act_705 ?_
        refine lv_iload hx hb dL_act_708 (lv_at hl 7 rfl) ?_
        refine kr_rdO hx hb hK hP 2 L rfl q (by omega) (by omega) dL_act_710 ?_
        refine lv_iload hx hb dL_act_711 (lv_at hl 1 rfl) ?_
        refine lv_iload hx hb dL_act_713 (lv_at hl 8 rfl) ?_
        refine kr_wrT (w := kr_W0 cy h a N L A) hx hb hK hJ hD hS hq pl hpl (fun j hj => (hw.rc hj).1) dL_act_715 (fun H locs hJ hD hS => ?_)
        have hJ : va_P D vwCl (kr_W0 cy h a N L A ++ kr_SW cy cz g ad N L (kr_rA A (5 * q + pl) k)) H := hJ
        have hD : va_D AA (kr_W0 cy h a N L A ++ kr_SW cy cz g ad N L (kr_rA A (5 * q + pl) k)) := hD
        refine lv_aload_n hx hb dL_act_716 rfl (lv_at hl 3 rfl) ?_
        refine lv_iload hx hb dL_act_717 (lv_at hl 7 rfl) ?_
        refine lv_iload hx hb dL_act_719 (lv_at hl 1 rfl) ?_
        refine lv_iload hx hb dL_act_721 (lv_at hl 8 rfl) ?_
        have he : A 0 k = if nI pl = 0 then (1 : Int32) else 0 := by rw [if_pos hp0]; exact c687
        have hpl0 : pl = 0 := (nI_eq (a := pl) (b := 0) (by omega) (by decide)).mp hp0
        have he2 : A 0 k = if pl = 0 then (1 : Int32) else 0 := c687.trans (if_pos hpl0).symm
        refine kr_jwI (n := 3) (As := [.int (nI q), .int (nI pl), .int (nI k)]) (rest := []) ⟨hx, hb, hml, hown, hts⟩ (c_X0_retie l D cy h a N L A _ q pl k hw hq hpl hk he) kg_RL_50 ⟨rfl, rfl⟩ (by decide +kernel) ⟨Nat.le_of_ble_eq_true rfl, Nat.le_of_ble_eq_true rfl⟩ hJ hK hD hS hA rfl hl.1 rfl (Nat.le_of_ble_eq_true rfl) dL_act_723 ⟨Nat.le_of_ble_eq_true rfl, Nat.le_of_ble_eq_true rfl⟩ (fun r9 H locs e9 hJ hD hS => ?_)
        subst e9
        refine lv_iload hx hb dL_act_726 (lv_at hl 0 rfl) ?_
        refine lv_icmp_ne (tgt := 735) hx hb dL_act_728 (by decide) (fun c728 => absurd rfl c728) (fun c728 => ?_)
        refine lv_iconst (v := 1) hx hb dL_act_731 (by decide) ?_
        refine lv_goto (tgt := 736) hx hb dL_act_732 (by decide) ?_
        refine W.widen (k := 20) (n := 80) (Nat.le_of_ble_eq_true rfl) (Nat.le_of_ble_eq_true rfl) ?_
        exact kr_aE (N, L, kr_rA A (5 * q + pl) k, ad) hx hb hr hlocks hJ hD hS ⟨kr_wf_r hw hk, kr_wx_r hw hx0 hq hpl hk he2, hN2, hL1⟩ dL_act_736
      · refine lv_iconst (v := 1) hx hb dL_act_690 (by decide) ?_
        refine W.widen (k := 20) (n := 80) (Nat.le_of_ble_eq_true rfl) (Nat.le_of_ble_eq_true rfl) ?_
        exact kr_aE (N, L, A, ad) hx hb hr hlocks hJ hD hS ⟨hw, hx0, hN2, hL1⟩ dL_act_691
  · refine lv_iconst (v := 1) hx hb dL_act_647 (by decide) ?_
    refine W.widen (k := 20) (n := 80) (Nat.le_of_ble_eq_true rfl) (Nat.le_of_ble_eq_true rfl) ?_
    exact kr_aE (N, L, A, ad) hx hb hr hlocks hJ hD hS ⟨hw, hx0, hN2, hL1⟩ dL_act_648
theorem kr_m1lt {k : Nat} (h : k < 2 ^ 30) : (-1 : Int32) < nI k := by
  rw [Int32.lt_iff_toInt_lt, nI_toInt (by omega), show (-1 : Int32).toInt = -1 by decide]; omega
theorem kr_nm1 {k : Nat} (h : k < 2 ^ 30) : ¬ nI k < (-1 : Int32) := by
  rw [Int32.lt_iff_toInt_lt, nI_toInt (by omega), show (-1 : Int32).toInt = -1 by decide]; omega
theorem kg_RL_34 : GoodIn kr_all (wsV RL 34 RX0 yX0_setSpill (Cond.code yX0_setSpill cX0_setSpill 5 (some .int) :: kr_all)) := kr_gV kq_477 kq_478 kq_479 kq_25 kq_480
set_option maxHeartbeats 4000000 in
set_option maxRecDepth 100000 in
theorem act_c2 {p : Program} {l : Launch} {e : Env} {s : State} {m : MethodId} {below : List Frame} {meth : Method} {c : Code} {ls : Array Slot} {D : va_G} {cy cz : ClassId} {h g N L q k d : Nat} {a : Nat → Nat} {ad : Nat → Nat → Nat} {A : Nat → Nat → Int32} {x : Int32} {AA : Nat → Prop} (hl0 : l.stackTraces = false) (hx : p.tables.exec = Jvm.exec) (hb : c.code = cL_act) (hml : c.maxLocals = 10) (hr : meth.sig.returnType = some .boolean) (hts : ∀ w ∈ kr_all, w.before #[Value.ref h, Value.ref g, Value.int x] s = true) (hown : s.vm.findClass RL = some m.cls) (hlocks : meth.locks = false) (htab : c.exceptionTable.toList = tableOf kr_hh) (hA : ∀ q : Nat, s.heap.size ≤ q → AA q) (hK : va_K D vwCl [(cy, .int), (cz, .array .int)] s) (hZ : kr_AO s) (hT : kr_T s) (hw : kr_wf N L A) (hx0 : kr_wx N L A) (hN2 : 2 ≤ N) (hL1 : 1 ≤ L) (hq : q < L) (hk : k < N) (hd1 : 1 ≤ d) (hd2 : d ≤ 999) (hJ : va_P D vwCl (kr_JW cy cz h a g ad N L A) s.heap) (hD : va_D AA (kr_JW cy cz h a g ad N L A)) (hS : va_S AA s.heap s.heap []) (hl : lv_has ls 10 [(0, .ref h), (1, .ref g), (2, .int x), (3, .int (nI N)), (4, .int (nI q)), (5, .int (nI k)), (6, .int (nI d)), (7, .int (if N < 16 then (1 : Int32) else 0))]) : W p l e ({ frames := 10, cells := 20, slots := 80, locals := 300 } : Room) s m #[Value.ref h, Value.ref g, Value.int x] below meth c s.heap [] 0 0 (MQ below (kr_AQ D cy cz h a g AA) #[Value.ref h, Value.ref g, Value.int x] s 20 80 AA) (F0 m 260 ls []) := by
  have hN := hw.1
  have hL := hw.2.1
  obtain ⟨hrc, er⟩ := hw.rc hq
  have hP : va_P D vwCl (kr_SW cy cz g ad N L A) s.heap := kr_Pr hJ
  refine lv_iload_n hx hb dL_act_260 rfl (lv_at hl 3 rfl) ?_
  refine lv_if_ne (tgt := 266) hx hb dL_act_261 (by decide) (fun c261 => ?_) (fun c261 => absurd ((nI_eq (a := N) (b := 0) (by omega) (by decide)).mp c261) (by omega))
  refine lv_iconst (v := 1) hx hb dL_act_266 (by decide) ?_
  refine lv_istore (lv' := [(7, .int 1), (0, .ref h), (1, .ref g), (2, .int x), (3, .int (nI N)), (4, .int (nI q)), (5, .int (nI k)), (6, .int (nI d))]) hx hb dL_act_267 hl (by decide) rfl (fun ls hl => ?_)
  refine lv_iload_n hx hb dL_act_269 rfl (lv_at hl 3 rfl) ?_
  refine lv_bipush (v := 8) hx hb dL_act_270 (by decide) ?_
  refine lv_ishr hx hb dL_act_272 ?_
  refine lv_iload hx hb dL_act_273 (lv_at hl 6 rfl) ?_
  refine lv_iconst (v := 1) hx hb dL_act_275 (by decide) ?_
  refine kr_iaddN hx hb k 1 dL_act_276 ?_
  refine kr_sI (n := 2) (As := [.int (x >>> (8 &&& 31)), .int (nI (k + 1))]) (rest := []) ⟨hx, hb, hml, hown, hts⟩ (c_L_below l (x >>> (8 &&& 31)) (k + 1) (by omega) (by omega)) kg_RL_18 ⟨rfl, rfl⟩ (by decide +kernel) ⟨Nat.le_of_ble_eq_true rfl, Nat.le_of_ble_eq_true rfl⟩ ⟨kr_blT, fun U hU hW => ⟨rfl, trivial⟩⟩ rfl hl.1 rfl (Nat.le_of_ble_eq_true rfl) dL_act_277 ⟨Nat.le_of_ble_eq_true rfl, Nat.le_of_ble_eq_true rfl⟩ (fun r9 e9 => ?_)
  obtain ⟨j1, hj1, rfl⟩ := e9
  refine lv_iconst (v := 1) hx hb dL_act_280 (by decide) ?_
  refine lv_isub hx hb dL_act_281 ?_
  refine lv_istore (lv' := [(8, .int ((nI j1) - 1)), (7, .int 1), (0, .ref h), (1, .ref g), (2, .int x), (3, .int (nI N)), (4, .int (nI q)), (5, .int (nI k)), (6, .int (nI d))]) hx hb dL_act_282 hl (by decide) rfl (fun ls hl => ?_)
  refine lv_iload hx hb dL_act_284 (lv_at hl 0 rfl) ?_
  refine kr_cutT (pcJ := 313) (stJ := []) (fun (z : Int32) H locs ls => (z = -1 ∨ ∃ i, i < k ∧ z = nI i ∧ A 0 i = A 0 k) ∧ H = s.heap ∧ locs = [] ∧ lv_has ls 10 [(0, .ref h), (1, .ref g), (2, .int x), (3, .int (nI N)), (4, .int (nI q)), (5, .int (nI k)), (6, .int (nI d)), (7, .int 1), (8, .int z)]) 0 0 ?_ (fun key => ?_)
  · clear hl
    rintro z H locs ls ⟨hz2, rfl, rfl, hl⟩
    refine lv_aload_n hx hb dL_act_313 rfl (lv_at hl 1 rfl) ?_
    refine va_get (ci := 1) (v := .ref (ad 0 0)) (C := RX1) (T := TX1) (N := 3) hx hb hts kr_wsX1 hown hK hP 0 rfl rfl 0 (by decide) (hts _ kq_512) (fun _ h9 => h9) rfl dL_act_314 ?_
    refine lv_iload hx hb dL_act_317 (lv_at hl 5 rfl) ?_
    refine kr_rdO hx hb hK hP 0 N rfl k (by omega) (by omega) dL_act_319 ?_
    refine lv_iconst (v := 3) hx hb dL_act_320 (by decide) ?_
    refine kr_rdK hx hb hK hP (k := k) (by omega) 3 (by decide) dL_act_321 ?_
    refine lv_istore (lv' := [(9, .int (A 3 k)), (0, .ref h), (1, .ref g), (2, .int x), (3, .int (nI N)), (4, .int (nI q)), (5, .int (nI k)), (6, .int (nI d)), (7, .int 1), (8, .int z)]) hx hb dL_act_322 hl (by decide) rfl (fun ls hl => ?_)
    refine lv_aload_n hx hb dL_act_324 rfl (lv_at hl 2 rfl) ?_
    refine va_get (ci := 1) (v := .ref (ad 0 0)) (C := RX1) (T := TX1) (N := 3) hx hb hts kr_wsX1 hown hK hP 0 rfl rfl 0 (by decide) (hts _ kq_512) (fun _ h9 => h9) rfl dL_act_325 ?_
    refine lv_iload hx hb dL_act_328 (lv_at hl 6 rfl) ?_
    refine kr_rdO hx hb hK hP 0 N rfl k (by omega) (by omega) dL_act_330 ?_
    refine lv_iconst (v := 3) hx hb dL_act_331 (by decide) ?_
    refine lv_iload hx hb dL_act_332 (lv_at hl 7 rfl) ?_
    refine kr_wrK (w := kr_W0 cy h a N L A) hx hb hK hJ hD hS hk 3 (by decide) dL_act_334 (fun H locs hJ hD hS => ?_)
    have hJ : va_P D vwCl (kr_W0 cy h a N L A ++ kr_SW cy cz g ad N L (kr_up A 3 (upd (A 3) k (nI d)))) H := hJ
    have hD : va_D AA (kr_W0 cy h a N L A ++ kr_SW cy cz g ad N L (kr_up A 3 (upd (A 3) k (nI d)))) := hD
    have hP : va_P D vwCl (kr_SG cy cz g ad N L L (kr_up A 3 (upd (A 3) k (nI d))) (kr_rc A) (kr_rc A)) _ := kr_Pr hJ
    refine lv_aload_n hx hb dL_act_335 rfl (lv_at hl 2 rfl) ?_
    refine va_get (ci := 1) (v := .ref (ad 0 0)) (C := RX1) (T := TX1) (N := 3) hx hb hts kr_wsX1 hown hK hP 0 rfl rfl 0 (by decide) (hts _ kq_512) (fun _ h9 => h9) rfl dL_act_336 ?_
    refine lv_iload hx hb dL_act_339 (lv_at hl 6 rfl) ?_
    refine kr_rdO hx hb hK hP 0 N rfl k (by omega) (by omega) dL_act_341 ?_
    refine lv_iconst (v := 4) hx hb dL_act_342 (by decide) ?_
    refine lv_iload hx hb dL_act_343 (lv_at hl 9 rfl) ?_
    refine kr_wrK (w := kr_W0 cy h a N L A) hx hb hK hJ hD hS hk 4 (by decide) dL_act_345 (fun H locs hJ hD hS => ?_)
    have hJ : va_P D vwCl (kr_W0 cy h a N L A ++ kr_SW cy cz g ad N L (kr_sA A k (nI d) z)) H := hJ
    have hD : va_D AA (kr_W0 cy h a N L A ++ kr_SW cy cz g ad N L (kr_sA A k (nI d) z)) := hD
    refine lv_aload_n hx hb dL_act_346 rfl (lv_at hl 1 rfl) ?_
    refine lv_iload hx hb dL_act_347 (lv_at hl 6 rfl) ?_
    refine lv_iload hx hb dL_act_349 (lv_at hl 7 rfl) ?_
    refine lv_iload hx hb dL_act_351 (lv_at hl 9 rfl) ?_
    have hz1 : ¬ z < -1 ∧ z < nI k := by
      rcases hz2 with e | ⟨i, h1, e, -⟩
      · rw [e]; exact ⟨by decide, kr_m1lt (by omega)⟩
      · rw [e]; exact ⟨kr_nm1 (by omega), nI_lt h1 (by omega)⟩
    refine kr_jwI (n := 3) (As := [.int (nI k), .int (nI d), .int z]) (rest := []) ⟨hx, hb, hml, hown, hts⟩ (c_X0_setSpill l D cy h a N L A _ k (nI d) z hN hk (kr_rgN (lo := 1) (hi := 999) hd1 hd2 (by decide)) hz1 hz2) kg_RL_34 ⟨rfl, rfl⟩ (by decide +kernel) ⟨Nat.le_of_ble_eq_true rfl, Nat.le_of_ble_eq_true rfl⟩ hJ hK hD hS hA rfl hl.1 rfl (Nat.le_of_ble_eq_true rfl) dL_act_353 ⟨Nat.le_of_ble_eq_true rfl, Nat.le_of_ble_eq_true rfl⟩ (fun r9 H locs e9 hJ hD hS => ?_)
    subst e9
    refine lv_iload hx hb dL_act_356 (lv_at hl 0 rfl) ?_
    refine lv_icmp_ne (tgt := 365) hx hb dL_act_358 (by decide) (fun c358 => absurd rfl c358) (fun c358 => ?_)
    refine lv_iconst (v := 1) hx hb dL_act_361 (by decide) ?_
    refine lv_goto (tgt := 366) hx hb dL_act_362 (by decide) ?_
    refine W.widen (k := 20) (n := 80) (Nat.le_of_ble_eq_true rfl) (Nat.le_of_ble_eq_true rfl) ?_
    exact kr_aE (N, L, kr_sA A k (nI d) z, ad) hx hb hr hlocks hJ hD hS ⟨kr_wf_s hw hk (kr_rgN (lo := 1) (hi := 999) hd1 hd2 (by decide)) (hz2.elim Or.inl (fun ⟨i, h1, h2, _⟩ => Or.inr ⟨i, h1, h2⟩)), kr_wx_s hx0 hz2 (by omega), hN2, hL1⟩ dL_act_366
  · refine lv_if_lt (tgt := 313) hx hb dL_act_286 (by decide) (fun c286 => ?_) (fun c286 => ?_)
    · have h9 := (kr_m1N (by omega)).mp c286
      subst h9
      exact key (nI 0 - 1) s.heap [] ls ⟨Or.inl rfl, rfl, rfl, lv_sub hl [2, 3, 4, 5, 6, 7, 8, 1, 0] rfl⟩
    · have h9 : j1 ≠ 0 := fun w => c286 ((kr_m1N (by omega)).mpr w)
      obtain ⟨i, rfl⟩ : ∃ i, j1 = i + 1 := ⟨j1 - 1, by omega⟩
      rw [nI_pred] at hl
      refine lv_aload_n hx hb dL_act_289 rfl (lv_at hl 3 rfl) ?_
      refine va_get (ci := 1) (v := .ref (ad 0 0)) (C := RX1) (T := TX1) (N := 3) hx hb hts kr_wsX1 hown hK hP 0 rfl rfl 0 (by decide) (hts _ kq_512) (fun _ h9 => h9) rfl dL_act_290 ?_
      refine lv_iload hx hb dL_act_293 (lv_at hl 0 rfl) ?_
      refine kr_rdO hx hb hK hP 0 N rfl i (by omega) (by omega) dL_act_295 ?_
      refine lv_iconst (v := 0) hx hb dL_act_296 (by decide) ?_
      refine kr_rdK hx hb hK hP (k := i) (by omega) 0 (by decide) dL_act_297 ?_
      refine lv_aload_n hx hb dL_act_298 rfl (lv_at hl 3 rfl) ?_
      refine va_get (ci := 1) (v := .ref (ad 0 0)) (C := RX1) (T := TX1) (N := 3) hx hb hts kr_wsX1 hown hK hP 0 rfl rfl 0 (by decide) (hts _ kq_512) (fun _ h9 => h9) rfl dL_act_299 ?_
      refine lv_iload hx hb dL_act_302 (lv_at hl 7 rfl) ?_
      refine kr_rdO hx hb hK hP 0 N rfl k (by omega) (by omega) dL_act_304 ?_
      refine lv_iconst (v := 0) hx hb dL_act_305 (by decide) ?_
      refine kr_rdK hx hb hK hP (k := k) (by omega) 0 (by decide) dL_act_306 ?_
      refine lv_icmp_eq (tgt := 313) hx hb dL_act_307 (by decide) (fun c307 => ?_) (fun c307 => ?_)
      · exact key (nI i) s.heap [] ls ⟨Or.inr ⟨i, by omega, rfl, c307⟩, rfl, rfl, lv_sub hl [2, 3, 4, 5, 6, 7, 8, 1, 0] rfl⟩
      · refine lv_iconst (v := -1) hx hb dL_act_310 (by decide) ?_
        refine lv_istore (lv' := [(8, .int (-1)), (7, .int 1), (0, .ref h), (1, .ref g), (2, .int x), (3, .int (nI N)), (4, .int (nI q)), (5, .int (nI k)), (6, .int (nI d))]) hx hb dL_act_311 hl (by decide) rfl (fun ls hl => ?_)
        exact key (-1) s.heap [] ls ⟨Or.inl rfl, rfl, rfl, lv_sub hl [2, 3, 4, 5, 6, 7, 8, 1, 0] rfl⟩
