theorem kg_RL_65 : GoodIn kr_all (wsS RL 65 yL_cell (Cond.code yL_cell cL_cell 2 (some .int) :: kr_all)) := kr_gS kq_457 kq_458 kq_24 kq_459
set_option maxHeartbeats 4000000 in
set_option maxRecDepth 100000 in
theorem bld_knot {p : Program} {l : Launch} {e : Env} {s : State} {m : MethodId} {below : List Frame} {meth : Method} {c : Code} {ls : Array Slot} {D : va_G} {cy cz : ClassId} {h g b Ls n k q pl : Nat} {a : Nat → Nat} {ad : Nat → Nat → Nat} {A : Nat → Nat → Int32} {xs : Nat → Int32} {AA : Nat → Prop} {H : Heap} {locs : List Loc} {cells slots : Nat} {Q : State → Prop} {x : Int32} (hx : p.tables.exec = Jvm.exec) (hb : c.code = cL_build) (hml : c.maxLocals = 9) (hts : ∀ w ∈ kr_all, w.before #[Value.ref h, Value.ref b] s = true) (hown : s.vm.findClass RL = some m.cls) (hlocks : meth.locks = false) (hA : ∀ q : Nat, s.heap.size ≤ q → AA q) (hK : va_K D vwCl [(cy, .int), (cz, .array .int)] s) (hZ : kr_AO s) (hX : va_X b Ls xs s s.heap) (hbl : b < s.heap.size) (hbA : ¬ AA b) (hLs : Ls ≤ 260) (hk : k < n) (hn : n ≤ 14) (hw : kr_wf k 0 A) (hx0 : kr_wx k 0 A) (hJ : va_P D vwCl (kr_JW cy cz h a g ad k 0 A) H) (hD : va_D AA (kr_JW cy cz h a g ad k 0 A)) (hS : va_S AA s.heap H locs) (hl : lv_has ls 9 [(0, .ref h), (1, .ref b), (2, .ref g), (3, .int (nI n)), (4, .int (nI k))]) (hf1 : cells + 2 ≤ 80) (hf2 : slots + 22 ≤ 620) (kk : ∀ (ad : Nat → Nat → Nat) (A : Nat → Nat → Int32) (H : Heap) (locs : List Loc) (ls : Array Slot), kr_wf (k + 1) 0 A → kr_wx (k + 1) 0 A → va_P D vwCl (kr_JW cy cz h a g ad (k + 1) 0 A) H → va_D AA (kr_JW cy cz h a g ad (k + 1) 0 A) → va_S AA s.heap H locs → lv_has ls 9 [(0, .ref h), (1, .ref b), (2, .ref g), (3, .int (nI n)), (4, .int (nI k))] → W p l e ({ frames := 10, cells := 80, slots := 620, locals := 300 } : Room) s m #[Value.ref h, Value.ref b] below meth c  H locs (cells + 2) (slots + 22) Q (F0 m 233 ls [])) : W p l e ({ frames := 10, cells := 80, slots := 620, locals := 300 } : Room) s m #[Value.ref h, Value.ref b] below meth c H locs cells slots Q (F0 m 30 ls []) := by
  have hN := hw.1
  have hP : va_P D vwCl (kr_SW cy cz g ad k 0 A) H := kr_Pr hJ
  refine lv_aload_n hx hb dL_build_30 rfl (lv_at hl 1 rfl) ?_
  refine lv_iconst (v := 1) hx hb dL_build_31 (by decide) ?_
  refine lv_iload hx hb dL_build_32 (lv_at hl 4 rfl) ?_
  refine kr_iaddN hx hb 1 k dL_build_34 ?_
  refine kr_sI (n := 2) (As := [.ref b, .int (nI (1 + k))]) (rest := []) ⟨hx, hb, hml, hown, hts⟩ (c_L_cell l b Ls xs (1 + k) (by omega) hLs) kg_RL_65 ⟨rfl, rfl⟩ (by decide +kernel) ⟨Nat.le_of_ble_eq_true rfl, Nat.le_of_ble_eq_true rfl⟩ (kr_psX hX hbl hbA hS) rfl hl.1 rfl (Nat.le_of_ble_eq_true rfl) dL_build_35 ⟨show cells + 0 ≤ 80 by omega, show slots + 0 ≤ 620 by omega⟩ (fun x9 _ => ?_)
  refine lv_iconst (v := 1) hx hb dL_build_38 (by decide) ?_
  refine lv_ishr hx hb dL_build_39 ?_
  refine lv_istore (lv' := [(5, .int (x9 >>> (1 &&& 31))), (0, .ref h), (1, .ref b), (2, .ref g), (3, .int (nI n)), (4, .int (nI k))]) hx hb dL_build_40 hl (by decide) rfl (fun ls hl => ?_)
  refine lv_iload hx hb dL_build_42 (lv_at hl 5 rfl) ?_
  refine lv_iconst (v := 2) hx hb dL_build_44 (by decide) ?_
  refine kr_jn (pcJ := 59) (stJ := []) (fun v => ∃ kd, kd < 2 ∧ v = nI kd ∧ (k = 0 → kd = 0) ∧ (k = 1 → kd = 1)) (fun v hv => ?_) (fun kJ => ?_)
  · obtain ⟨kd, hkd, rfl, hkd0, hkd1⟩ := hv
    have hkd2 : nI kd = 0 ∨ nI kd = 1 := by rcases (show kd = 0 ∨ kd = 1 by omega) with e | e; rw [e]; exact Or.inl rfl; rw [e]; exact Or.inr rfl
    refine lv_istore (lv' := [(6, .int (nI kd)), (5, .int (x9 >>> (1 &&& 31))), (0, .ref h), (1, .ref b), (2, .ref g), (3, .int (nI n)), (4, .int (nI k))]) hx hb dL_build_59 hl (by decide) rfl (fun ls hl => ?_)
    refine lv_iconst (v := 5) hx hb dL_build_61 (by decide) ?_
    refine kr_newF (BB := AA) hx hb hts hK hJ hD hA hS 5 (by decide) (by decide) (by decide) (show cells + 1 ≤ 80 by omega) (show slots + 5 ≤ 620 by omega) dL_build_62 (fun q9 H hqq9 hJ hD hS => ?_)
    refine lv_dup hx hb dL_build_64 rfl ?_
    refine lv_iconst (v := 0) hx hb dL_build_65 (by decide) ?_
    refine lv_iload hx hb dL_build_66 (lv_at hl 0 rfl) ?_
    refine kr_astF (tys := [(cz, .array .int)]) hx hb hK hJ hD hS (hA q9 hqq9) ((kr_JW cy cz h a g ad k 0 A).length + 0) (kr_gr rfl) 0 (by decide) (by decide) dL_build_68 (fun H locs hJ hD hS => ?_)
    rw [kr_lset1] at hJ hD
    refine lv_dup hx hb dL_build_69 rfl ?_
    refine lv_iconst (v := 1) hx hb dL_build_70 (by decide) ?_
    refine lv_bipush (v := 10) hx hb dL_build_71 (by decide) ?_
    refine lv_iload hx hb dL_build_73 (lv_at hl 1 rfl) ?_
    refine lv_iconst (v := 3) hx hb dL_build_75 (by decide) ?_
    refine lv_ishr hx hb dL_build_76 ?_
    refine lv_bipush (v := 91) hx hb dL_build_77 (by decide) ?_
    refine kr_sI (n := 2) (As := [.int ((x9 >>> (1 &&& 31)) >>> (3 &&& 31)), .int 91]) (rest := [.int 10, .int 1, .ref q9, .ref q9]) ⟨hx, hb, hml, hown, hts⟩ (c_L_below l ((x9 >>> (1 &&& 31)) >>> (3 &&& 31)) 91 (by omega) (by omega)) kg_RL_18 ⟨rfl, rfl⟩ (by decide +kernel) ⟨Nat.le_of_ble_eq_true rfl, Nat.le_of_ble_eq_true rfl⟩ ⟨kr_blT, fun U hU hW => ⟨rfl, trivial⟩⟩ rfl hl.1 rfl (Nat.le_of_ble_eq_true rfl) dL_build_79 ⟨show cells + 1 + 0 ≤ 80 by omega, show slots + 5 + 0 ≤ 620 by omega⟩ (fun r9 e9 => ?_)
    obtain ⟨je, hje, rfl⟩ := e9
    refine kr_iaddN hx hb 10 je dL_build_82 ?_
    refine kr_astF (tys := [(cz, .array .int)]) hx hb hK hJ hD hS (hA q9 hqq9) ((kr_JW cy cz h a g ad k 0 A).length + 0) (kr_gr rfl) 1 (by decide) (by decide) dL_build_83 (fun H locs hJ hD hS => ?_)
    rw [kr_lset1] at hJ hD
    refine lv_dup hx hb dL_build_84 rfl ?_
    refine lv_iconst (v := 2) hx hb dL_build_85 (by decide) ?_
    refine lv_iconst (v := 1) hx hb dL_build_86 (by decide) ?_
    refine lv_iload hx hb dL_build_87 (lv_at hl 1 rfl) ?_
    refine lv_iconst (v := 5) hx hb dL_build_89 (by decide) ?_
    refine lv_ishr hx hb dL_build_90 ?_
    refine lv_bipush (v := 9) hx hb dL_build_91 (by decide) ?_
    refine kr_sI (n := 2) (As := [.int ((x9 >>> (1 &&& 31)) >>> (5 &&& 31)), .int 9]) (rest := [.int 1, .int 2, .ref q9, .ref q9]) ⟨hx, hb, hml, hown, hts⟩ (c_L_below l ((x9 >>> (1 &&& 31)) >>> (5 &&& 31)) 9 (by omega) (by omega)) kg_RL_18 ⟨rfl, rfl⟩ (by decide +kernel) ⟨Nat.le_of_ble_eq_true rfl, Nat.le_of_ble_eq_true rfl⟩ ⟨kr_blT, fun U hU hW => ⟨rfl, trivial⟩⟩ rfl hl.1 rfl (Nat.le_of_ble_eq_true rfl) dL_build_93 ⟨show cells + 1 + 0 ≤ 80 by omega, show slots + 5 + 0 ≤ 620 by omega⟩ (fun r9 e9 => ?_)
    obtain ⟨jc, hjc, rfl⟩ := e9
    refine kr_iaddN hx hb 1 jc dL_build_96 ?_
    refine kr_astF (tys := [(cz, .array .int)]) hx hb hK hJ hD hS (hA q9 hqq9) ((kr_JW cy cz h a g ad k 0 A).length + 0) (kr_gr rfl) 2 (by decide) (by decide) dL_build_97 (fun H locs hJ hD hS => ?_)
    rw [kr_lset1] at hJ hD
    refine lv_dup hx hb dL_build_98 rfl ?_
    refine lv_iconst (v := 3) hx hb dL_build_99 (by decide) ?_
    refine lv_iconst (v := 0) hx hb dL_build_100 (by decide) ?_
    refine kr_astF (tys := [(cz, .array .int)]) hx hb hK hJ hD hS (hA q9 hqq9) ((kr_JW cy cz h a g ad k 0 A).length + 0) (kr_gr rfl) 3 (by decide) (by decide) dL_build_101 (fun H locs hJ hD hS => ?_)
    rw [kr_lset1] at hJ hD
    refine lv_dup hx hb dL_build_102 rfl ?_
    refine lv_iconst (v := 4) hx hb dL_build_103 (by decide) ?_
    refine lv_iconst (v := -1) hx hb dL_build_104 (by decide) ?_
    refine kr_astF (tys := [(cz, .array .int)]) hx hb hK hJ hD hS (hA q9 hqq9) ((kr_JW cy cz h a g ad k 0 A).length + 0) (kr_gr rfl) 4 (by decide) (by decide) dL_build_105 (fun H locs hJ hD hS => ?_)
    rw [kr_lset1] at hJ hD
    have hP : va_P D vwCl (kr_SG cy cz g ad k 0 0 A (kr_rc A) (kr_rc A)) H := kr_Pr (kr_Pl hJ)
    refine lv_astore (lv' := [(7, .ref q9), (6, .int (nI kd)), (5, .int (x9 >>> (1 &&& 31))), (0, .ref h), (1, .ref b), (2, .ref g), (3, .int (nI n)), (4, .int (nI k))]) hx hb dL_build_106 hl (by decide) rfl (fun ls hl => ?_)
    refine lv_aload_n hx hb dL_build_108 rfl (lv_at hl 5 rfl) ?_
    refine lv_aload_n hx hb dL_build_109 rfl (lv_at hl 5 rfl) ?_
    refine va_get (ci := 1) (v := .ref (ad 0 0)) (C := RX1) (T := TX1) (N := 3) hx hb hts kr_wsX1 hown hK hP 0 rfl rfl 0 (by decide) (hts _ kq_512) (fun _ h9 => h9) rfl dL_build_110 ?_
    refine lv_aload hx hb dL_build_113 (lv_at hl 0 rfl) ?_
    refine kr_sNR (n := 2) (mc := 1) (ms := 17) (BB := AA) (As := [.ref (ad 0 0), .ref q9]) (rest := [.ref g]) ⟨hx, hb, hml, hown, hts⟩ (c_X1_with l _ D cy cz _ (9 + 1) (ad 0 0) k q9 (fun k => some (ad (0 + 1) k)) (kr_gl (kr_gr (ws := kr_W0 cy h a k 0 A) (i := 1) rfl)) (by omega) (fun i9 hi9 => ⟨_, _, _, rfl, List.mem_of_getElem? (kr_gl (kr_gr (ws := kr_W0 cy h a k 0 A) (kr_gK hi9)))⟩) ⟨_, _, List.mem_of_getElem? (kr_gr (i := 0) rfl)⟩) kgs_RL_24 ⟨rfl, rfl⟩ (by decide +kernel) ⟨Nat.le_of_ble_eq_true rfl, Nat.le_of_ble_eq_true rfl⟩ hJ hK hD hA hZ hS hA rfl hl.1 rfl (Nat.le_of_ble_eq_true rfl) dL_build_115 ⟨show cells + 1 + 1 ≤ 80 by omega, show slots + 5 + 17 ≤ 620 by omega⟩ (fun oq9 H locs hk9 hJ hD hS => ?_)
    clear hk9
    refine kr_wnK (n1 := 0) (w := kr_W0 cy h a k 0 A) hx hb hts hown (hts _ kq_512) hK hJ hD hS (fun j hj => by rw [if_neg (by omega), if_pos hj]) (if_pos rfl) (kr_aA A k (nI kd) (nI (10 + je)) (nI (1 + jc))) (fun j hj => ?_) (fun i hi j hj => kr_aA_o (by omega) j) (fun i hi j hj => rfl) (fun i hi j hj => rfl) dL_build_118 (fun H locs hJ hD hS => ?_)
    · rcases (show j = 0 ∨ j = 1 ∨ j = 2 ∨ j = 3 ∨ j = 4 by omega) with rfl | rfl | rfl | rfl | rfl
      · show nI kd = upd (A 0) k (nI kd) k
        exact (pk_us (f := A 0)).symm
      · show nI (10 + je) = upd (A 1) k (nI (10 + je)) k
        exact (pk_us (f := A 1)).symm
      · show nI (1 + jc) = upd (A 2) k (nI (1 + jc)) k
        exact (pk_us (f := A 2)).symm
      · show 0 = upd (A 3) k 0 k
        exact (pk_us (f := A 3)).symm
      · show -1 = upd (A 4) k (-1) k
        exact (pk_us (f := A 4)).symm
    · obtain ⟨ad2, had2⟩ : ∃ z, z = kr_ad (kr_ad ad 1 k q9) 0 0 oq9 := ⟨_, rfl⟩
      rw [← had2] at hJ hD
      have e8 : ad2 1 k = q9 := by rw [had2, kr_adN _ (by decide), kr_ad0]
      rw [← e8] at hl
      have hJ : va_P D vwCl (kr_W0 cy h a k 0 A ++ kr_SW cy cz g ad2 (k + 1) 0 (kr_aA A k (nI kd) (nI (10 + je)) (nI (1 + jc)))) H := hJ
      have hD : va_D AA (kr_W0 cy h a k 0 A ++ kr_SW cy cz g ad2 (k + 1) 0 (kr_aA A k (nI kd) (nI (10 + je)) (nI (1 + jc)))) := hD
      have hP : va_P D vwCl (kr_SW cy cz g ad2 (k + 1) 0 (kr_aA A k (nI kd) (nI (10 + je)) (nI (1 + jc)))) H := kr_Pr hJ
      refine lv_aload_n hx hb dL_build_121 rfl (lv_at hl 3 rfl) ?_
      refine lv_aload hx hb dL_build_122 (lv_at hl 0 rfl) ?_
      refine lv_iconst (v := 0) hx hb dL_build_124 (by decide) ?_
      refine kr_rdK hx hb hK hP (k := k) (by omega) 0 (by decide) dL_build_125 ?_
      rw [show (kr_aA A k (nI kd) (nI (10 + je)) (nI (1 + jc))) 0 k = nI kd from pk_us]
      refine lv_aload hx hb dL_build_126 (lv_at hl 0 rfl) ?_
      refine lv_iconst (v := 1) hx hb dL_build_128 (by decide) ?_
      refine kr_rdK hx hb hK hP (k := k) (by omega) 1 (by decide) dL_build_129 ?_
      rw [show (kr_aA A k (nI kd) (nI (10 + je)) (nI (1 + jc))) 1 k = nI (10 + je) from pk_us]
      refine lv_aload hx hb dL_build_130 (lv_at hl 0 rfl) ?_
      refine lv_iconst (v := 2) hx hb dL_build_132 (by decide) ?_
      refine kr_rdK hx hb hK hP (k := k) (by omega) 2 (by decide) dL_build_133 ?_
      rw [show (kr_aA A k (nI kd) (nI (10 + je)) (nI (1 + jc))) 2 k = nI (1 + jc) from pk_us]
      have h16 : k < 16 := by omega
      refine kr_jwI (n := 3) (As := [.int (nI kd), .int (nI (10 + je)), .int (nI (1 + jc))]) (rest := []) ⟨hx, hb, hml, hown, hts⟩ (c_X0_addKnot l D cy h a k 0 A _ (nI kd) (nI (10 + je)) (nI (1 + jc)) hkd2 (kr_rgN (lo := 10) (hi := 100) (by omega) (by omega) (by decide)) (kr_rgN (lo := 1) (hi := 9) (by omega) (by omega) (by decide)) h16) kg_RL_28 ⟨rfl, rfl⟩ (by decide +kernel) ⟨Nat.le_of_ble_eq_true rfl, Nat.le_of_ble_eq_true rfl⟩ hJ hK hD hS hA rfl hl.1 rfl (Nat.le_of_ble_eq_true rfl) dL_build_134 ⟨show cells + 1 + 1 + 0 ≤ 80 by omega, show slots + 5 + 17 + 0 ≤ 620 by omega⟩ (fun r9 H locs e9 hJ hD hS => ?_)
      subst e9
      have hw2 := kr_wf_a (x := nI kd) (y := nI (10 + je)) (z := nI (1 + jc)) hw h16 hkd2
      have hx2 : kr_wx (k + 1) 0 (kr_aA A k (nI kd) (nI (10 + je)) (nI (1 + jc))) := kr_wx_a hw hx0 (fun w => by rw [hkd0 w]; rfl) (fun w => by rw [hkd1 w]; rfl) ⟨10 + je, by omega, by omega, rfl⟩ ⟨1 + jc, by omega, by omega, rfl⟩
      refine lv_iload hx hb dL_build_137 (lv_at hl 7 rfl) ?_
      refine lv_icmp_eq (tgt := 144) hx hb dL_build_139 (by decide) (fun c139 => ?_) (fun c139 => absurd rfl c139)
      have hJ : va_P D vwCl (kr_W0 cy h a (k + 1) 0 (kr_aA A k (nI kd) (nI (10 + je)) (nI (1 + jc))) ++ kr_SW cy cz g ad2 (k + 1) 0 (kr_aA A k (nI kd) (nI (10 + je)) (nI (1 + jc)))) H := hJ
      have hD : va_D AA (kr_W0 cy h a (k + 1) 0 (kr_aA A k (nI kd) (nI (10 + je)) (nI (1 + jc))) ++ kr_SW cy cz g ad2 (k + 1) 0 (kr_aA A k (nI kd) (nI (10 + je)) (nI (1 + jc)))) := hD
      have hP : va_P D vwCl (kr_SW cy cz g ad2 (k + 1) 0 (kr_aA A k (nI kd) (nI (10 + je)) (nI (1 + jc)))) H := kr_Pr hJ
      refine lv_iload hx hb dL_build_144 (lv_at hl 2 rfl) ?_
      refine lv_bipush (v := 6) hx hb dL_build_146 (by decide) ?_
      refine lv_ishr hx hb dL_build_148 ?_
      refine lv_iload hx hb dL_build_149 (lv_at hl 7 rfl) ?_
      refine lv_iconst (v := 1) hx hb dL_build_151 (by decide) ?_
      refine kr_iaddN hx hb k 1 dL_build_152 ?_
      refine kr_sI (n := 2) (As := [.int ((x9 >>> (1 &&& 31)) >>> (6 &&& 31)), .int (nI (k + 1))]) (rest := []) ⟨hx, hb, hml, hown, hts⟩ (c_L_below l ((x9 >>> (1 &&& 31)) >>> (6 &&& 31)) (k + 1) (by omega) (by omega)) kg_RL_18 ⟨rfl, rfl⟩ (by decide +kernel) ⟨Nat.le_of_ble_eq_true rfl, Nat.le_of_ble_eq_true rfl⟩ ⟨kr_blT, fun U hU hW => ⟨rfl, trivial⟩⟩ rfl hl.1 rfl (Nat.le_of_ble_eq_true rfl) dL_build_153 ⟨show cells + 1 + 1 + 0 ≤ 80 by omega, show slots + 5 + 17 + 0 ≤ 620 by omega⟩ (fun r9 e9 => ?_)
      obtain ⟨j6, hj6, rfl⟩ := e9
      refine lv_iconst (v := 1) hx hb dL_build_156 (by decide) ?_
      refine lv_isub hx hb dL_build_157 ?_
      refine lv_istore (lv' := [(8, .int ((nI j6) - 1)), (7, .ref (ad2 1 k)), (6, .int (nI kd)), (5, .int (x9 >>> (1 &&& 31))), (0, .ref h), (1, .ref b), (2, .ref g), (3, .int (nI n)), (4, .int (nI k))]) hx hb dL_build_158 hl (by decide) rfl (fun ls hl => ?_)
      refine lv_iload hx hb dL_build_160 (lv_at hl 3 rfl) ?_
      refine lv_iconst (v := 4) hx hb dL_build_162 (by decide) ?_
      refine lv_ishr hx hb dL_build_163 ?_
      refine lv_iconst (v := 3) hx hb dL_build_164 (by decide) ?_
      refine kr_sI (n := 2) (As := [.int ((x9 >>> (1 &&& 31)) >>> (4 &&& 31)), .int 3]) (rest := []) ⟨hx, hb, hml, hown, hts⟩ (c_L_below l ((x9 >>> (1 &&& 31)) >>> (4 &&& 31)) 3 (by omega) (by omega)) kg_RL_18 ⟨rfl, rfl⟩ (by decide +kernel) ⟨Nat.le_of_ble_eq_true rfl, Nat.le_of_ble_eq_true rfl⟩ ⟨kr_blT, fun U hU hW => ⟨rfl, trivial⟩⟩ rfl hl.1 rfl (Nat.le_of_ble_eq_true rfl) dL_build_165 ⟨show cells + 1 + 1 + 0 ≤ 80 by omega, show slots + 5 + 17 + 0 ≤ 620 by omega⟩ (fun r9 e9 => ?_)
      obtain ⟨j4, hj4, rfl⟩ := e9
      refine lv_if_eq (tgt := 233) hx hb dL_build_168 (by decide) (fun c168 => ?_) (fun c168 => ?_)
      · exact kk ad2 (kr_aA A k (nI kd) (nI (10 + je)) (nI (1 + jc))) _ _ _ (hw2) (hx2) hJ hD hS (lv_sub hl [4, 5, 6, 7, 8] rfl)
      · refine kr_cutT (pcJ := 193) (stJ := []) (fun (z : Int32) H9 locs9 ls => (z = -1 ∨ ∃ i, i < k ∧ z = nI i ∧ (kr_aA A k (nI kd) (nI (10 + je)) (nI (1 + jc))) 0 i = (kr_aA A k (nI kd) (nI (10 + je)) (nI (1 + jc))) 0 k) ∧ H9 = H ∧ locs9 = locs ∧ lv_has ls 9 [(0, .ref h), (1, .ref b), (2, .ref g), (3, .int (nI n)), (4, .int (nI k)), (5, .int (x9 >>> (1 &&& 31))), (6, .int (nI kd)), (7, .ref (ad2 1 k)), (8, .int z)]) (cells + 1 + 1) (slots + 5 + 17) ?_ (fun key => ?_)
        · clear hl
          rintro z H9 locs9 ls ⟨hz2, rfl, rfl, hl⟩
          refine lv_aload hx hb dL_build_193 (lv_at hl 7 rfl) ?_
          refine lv_iconst (v := 3) hx hb dL_build_195 (by decide) ?_
          refine lv_iconst (v := 1) hx hb dL_build_196 (by decide) ?_
          refine lv_iload hx hb dL_build_197 (lv_at hl 5 rfl) ?_
          refine lv_bipush (v := 8) hx hb dL_build_199 (by decide) ?_
          refine lv_ishr hx hb dL_build_201 ?_
          refine lv_sipush (v := 400) hx hb dL_build_202 (by decide) ?_
          refine kr_sI (n := 2) (As := [.int ((x9 >>> (1 &&& 31)) >>> (8 &&& 31)), .int 400]) (rest := [.int 1, .int 3, .ref (ad2 1 k)]) ⟨hx, hb, hml, hown, hts⟩ (c_L_below l ((x9 >>> (1 &&& 31)) >>> (8 &&& 31)) 400 (by omega) (by omega)) kg_RL_18 ⟨rfl, rfl⟩ (by decide +kernel) ⟨Nat.le_of_ble_eq_true rfl, Nat.le_of_ble_eq_true rfl⟩ ⟨kr_blT, fun U hU hW => ⟨rfl, trivial⟩⟩ rfl hl.1 rfl (Nat.le_of_ble_eq_true rfl) dL_build_205 ⟨show cells + 1 + 1 + 0 ≤ 80 by omega, show slots + 5 + 17 + 0 ≤ 620 by omega⟩ (fun r9 e9 => ?_)
          obtain ⟨j8, hj8, rfl⟩ := e9
          refine kr_iaddN hx hb 1 j8 dL_build_208 ?_
          obtain ⟨d, hd0⟩ : ∃ z, z = 1 + j8 := ⟨_, rfl⟩
          rw [← hd0]
          have hd1 : 1 ≤ d := by omega
          have hd2 : d ≤ 400 := by omega
          refine kr_wrK (w := kr_W0 cy h a (k + 1) 0 (kr_aA A k (nI kd) (nI (10 + je)) (nI (1 + jc)))) hx hb hK hJ hD hS (Nat.lt_succ_self k) 3 (by decide) dL_build_209 (fun H locs hJ hD hS => ?_)
          have hJ : va_P D vwCl (kr_W0 cy h a (k + 1) 0 (kr_aA A k (nI kd) (nI (10 + je)) (nI (1 + jc))) ++ kr_SW cy cz g ad2 (k + 1) 0 (kr_up (kr_aA A k (nI kd) (nI (10 + je)) (nI (1 + jc))) 3 (upd ((kr_aA A k (nI kd) (nI (10 + je)) (nI (1 + jc))) 3) k (nI d)))) H := hJ
          have hD : va_D AA (kr_W0 cy h a (k + 1) 0 (kr_aA A k (nI kd) (nI (10 + je)) (nI (1 + jc))) ++ kr_SW cy cz g ad2 (k + 1) 0 (kr_up (kr_aA A k (nI kd) (nI (10 + je)) (nI (1 + jc))) 3 (upd ((kr_aA A k (nI kd) (nI (10 + je)) (nI (1 + jc))) 3) k (nI d)))) := hD
          have hP : va_P D vwCl (kr_SW cy cz g ad2 (k + 1) 0 (kr_up (kr_aA A k (nI kd) (nI (10 + je)) (nI (1 + jc))) 3 (upd ((kr_aA A k (nI kd) (nI (10 + je)) (nI (1 + jc))) 3) k (nI d)))) H := kr_Pr hJ
          refine lv_aload hx hb dL_build_210 (lv_at hl 7 rfl) ?_
          refine lv_iconst (v := 4) hx hb dL_build_212 (by decide) ?_
          refine lv_iload hx hb dL_build_213 (lv_at hl 8 rfl) ?_
          refine kr_wrK (w := kr_W0 cy h a (k + 1) 0 (kr_aA A k (nI kd) (nI (10 + je)) (nI (1 + jc)))) hx hb hK hJ hD hS (Nat.lt_succ_self k) 4 (by decide) dL_build_215 (fun H locs hJ hD hS => ?_)
          have hJ : va_P D vwCl (kr_W0 cy h a (k + 1) 0 (kr_aA A k (nI kd) (nI (10 + je)) (nI (1 + jc))) ++ kr_SW cy cz g ad2 (k + 1) 0 (kr_sA (kr_aA A k (nI kd) (nI (10 + je)) (nI (1 + jc))) k (nI d) z)) H := hJ
          have hD : va_D AA (kr_W0 cy h a (k + 1) 0 (kr_aA A k (nI kd) (nI (10 + je)) (nI (1 + jc))) ++ kr_SW cy cz g ad2 (k + 1) 0 (kr_sA (kr_aA A k (nI kd) (nI (10 + je)) (nI (1 + jc))) k (nI d) z)) := hD
          have hP : va_P D vwCl (kr_SW cy cz g ad2 (k + 1) 0 (kr_sA (kr_aA A k (nI kd) (nI (10 + je)) (nI (1 + jc))) k (nI d) z)) H := kr_Pr hJ
          refine lv_aload_n hx hb dL_build_216 rfl (lv_at hl 0 rfl) ?_
          refine lv_iload hx hb dL_build_217 (lv_at hl 4 rfl) ?_
          refine lv_aload hx hb dL_build_219 (lv_at hl 7 rfl) ?_
          refine lv_iconst (v := 3) hx hb dL_build_221 (by decide) ?_
          refine kr_rdK hx hb hK hP (k := k) (by omega) 3 (by decide) dL_build_222 ?_
          rw [show (kr_sA (kr_aA A k (nI kd) (nI (10 + je)) (nI (1 + jc))) k (nI d) z) 3 k = nI d from pk_us]
          refine lv_iload hx hb dL_build_223 (lv_at hl 8 rfl) ?_
          have hz4 : ¬ z < -1 ∧ z < nI k := by
            rcases hz2 with e | ⟨i, h1, e, -⟩
            · rw [e]; exact ⟨by decide, kr_m1lt (by omega)⟩
            · rw [e]; exact ⟨kr_nm1 (by omega), nI_lt (by omega) (by omega)⟩
          refine kr_jwI (n := 3) (As := [.int (nI k), .int (nI d), .int z]) (rest := []) ⟨hx, hb, hml, hown, hts⟩ (c_X0_setSpill l D cy h a (k + 1) 0 (kr_aA A k (nI kd) (nI (10 + je)) (nI (1 + jc))) _ k (nI d) z hw2.1 (Nat.lt_succ_self k) (kr_rgN (lo := 1) (hi := 999) hd1 (by omega) (by decide)) hz4 hz2) kg_RL_34 ⟨rfl, rfl⟩ (by decide +kernel) ⟨Nat.le_of_ble_eq_true rfl, Nat.le_of_ble_eq_true rfl⟩ hJ hK hD hS hA rfl hl.1 rfl (Nat.le_of_ble_eq_true rfl) dL_build_225 ⟨show cells + 1 + 1 + 0 ≤ 80 by omega, show slots + 5 + 17 + 0 ≤ 620 by omega⟩ (fun r9 H locs e9 hJ hD hS => ?_)
          subst e9
          refine lv_if_eq (tgt := 233) hx hb dL_build_228 (by decide) (fun c228 => ?_) (fun c228 => absurd (show (kr_aA A k (nI kd) (nI (10 + je)) (nI (1 + jc))) 3 k = 0 from pk_us) c228)
          exact kk ad2 (kr_sA (kr_aA A k (nI kd) (nI (10 + je)) (nI (1 + jc))) k (nI d) z) _ _ _ (kr_wf_s hw2 (Nat.lt_succ_self k) (kr_rgN (lo := 1) (hi := 999) hd1 (by omega) (by decide)) (hz2.elim Or.inl (fun ⟨i, h1, h2, _⟩ => Or.inr ⟨i, h1, h2⟩))) (kr_wx_s hx2 hz2 (by omega)) hJ hD hS (lv_sub hl [0, 1, 2, 3, 4] rfl)
        · refine lv_iload hx hb dL_build_171 (lv_at hl 0 rfl) ?_
          refine lv_if_lt (tgt := 193) hx hb dL_build_173 (by decide) (fun c173 => ?_) (fun c173 => ?_)
          · have h9 := (kr_m1N (by omega)).mp c173
            subst h9
            exact key (nI 0 - 1) _ _ ls ⟨Or.inl rfl, rfl, rfl, lv_sub hl [4, 5, 6, 7, 8, 3, 2, 1, 0] rfl⟩
          · have h9 : j6 ≠ 0 := fun w => c173 ((kr_m1N (by omega)).mpr w)
            obtain ⟨i, rfl⟩ : ∃ i, j6 = i + 1 := ⟨j6 - 1, by omega⟩
            rw [nI_pred] at hl
            refine lv_aload_n hx hb dL_build_176 rfl (lv_at hl 6 rfl) ?_
            refine va_get (ci := 1) (v := .ref (ad2 0 0)) (C := RX1) (T := TX1) (N := 3) hx hb hts kr_wsX1 hown hK hP 0 rfl rfl 0 (by decide) (hts _ kq_512) (fun _ h9 => h9) rfl dL_build_177 ?_
            refine lv_iload hx hb dL_build_180 (lv_at hl 0 rfl) ?_
            refine kr_rdO hx hb hK hP 0 (k + 1) rfl i (by omega) (by omega) dL_build_182 ?_
            refine lv_iconst (v := 0) hx hb dL_build_183 (by decide) ?_
            refine kr_rdK hx hb hK hP (k := i) (by omega) 0 (by decide) dL_build_184 ?_
            refine lv_iload hx hb dL_build_185 (lv_at hl 2 rfl) ?_
            refine lv_icmp_eq (tgt := 193) hx hb dL_build_187 (by decide) (fun c187 => ?_) (fun c187 => ?_)
            · exact key (nI i) _ _ ls ⟨Or.inr ⟨i, by omega, rfl, c187.trans (show nI kd = (kr_aA A k (nI kd) (nI (10 + je)) (nI (1 + jc))) 0 k from (pk_us (f := A 0)).symm)⟩, rfl, rfl, lv_sub hl [4, 5, 6, 7, 8, 3, 2, 1, 0] rfl⟩
            · refine lv_goto (tgt := 233) hx hb dL_build_190 (by decide) ?_
              exact kk ad2 (kr_aA A k (nI kd) (nI (10 + je)) (nI (1 + jc))) _ _ _ (hw2) (hx2) hJ hD hS (lv_sub hl [4, 5, 6, 7, 8] rfl)
  · refine lv_icmp_ge (tgt := 53) hx hb dL_build_45 (by decide) (fun c45 => ?_) (fun c45 => ?_)
    · refine lv_iload hx hb dL_build_53 (lv_at hl 0 rfl) ?_
      refine lv_iconst (v := 2) hx hb dL_build_55 (by decide) ?_
      refine kr_sI (n := 2) (As := [.int (x9 >>> (1 &&& 31)), .int 2]) (rest := []) ⟨hx, hb, hml, hown, hts⟩ (c_L_below l (x9 >>> (1 &&& 31)) 2 (by omega) (by omega)) kg_RL_18 ⟨rfl, rfl⟩ (by decide +kernel) ⟨Nat.le_of_ble_eq_true rfl, Nat.le_of_ble_eq_true rfl⟩ ⟨kr_blT, fun U hU hW => ⟨rfl, trivial⟩⟩ rfl hl.1 rfl (Nat.le_of_ble_eq_true rfl) dL_build_56 ⟨show cells + 0 ≤ 80 by omega, show slots + 0 ≤ 620 by omega⟩ (fun r9 e9 => ?_)
      obtain ⟨kd, hkd, rfl⟩ := e9
      have hk2 : 2 ≤ k := by have := kr_ge (a := k) (b := 2) (by omega) (by decide) c45; omega
      exact kJ _ ⟨kd, hkd, rfl, fun w => absurd w (by omega), fun w => absurd w (by omega)⟩
    · have hk2 : k < 2 := kr_lt (a := k) (b := 2) (by omega) (by decide) c45
      refine lv_iload hx hb dL_build_48 (lv_at hl 5 rfl) ?_
      refine lv_goto (tgt := 59) hx hb dL_build_50 (by decide) ?_
      exact kJ _ ⟨k, hk2, rfl, fun w => w, fun w => w⟩
