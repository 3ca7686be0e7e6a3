theorem kgs_RL_70 : GoodIn kr_all (va_wsS RL 70 yL_build (Cond.code yL_build cL_build 9 (some (.object "KnotRackLaw$Sim")) :: kr_all)) := kr_gS2 kq_503 kq_504 kq_24 kq_505
theorem kr_gW {own : String} {idx n : Nat} {y : MethodName} {b : ByteArray} {r : Option FieldType} {hh : List (Nat × Nat × Nat × Nat)} (h1 : Cond.methodLink own idx y ∈ kr_all) (h2 : Cond.static y ∈ kr_all) (h4 : Cond.initialized y.cls ∈ kr_all) (h5 : Cond.codeWith y b n r hh ∈ kr_all) : GoodIn kr_all (va_wsS own idx y (Cond.codeWith y b n r hh :: kr_all)) := by
  refine kr_good (fun w hw => ?_)
  unfold va_wsS at hw
  rcases List.mem_append.mp hw with h | h
  · simp only [List.mem_cons, List.not_mem_nil, or_false] at h
    rcases h with rfl | rfl | rfl
    · exact h1
    · exact h2
    · exact h4
  · rcases List.mem_cons.mp h with rfl | h
    · exact h5
    · exact h
theorem kgh_act : GoodIn kr_all (va_wsS RL 74 yL_act (Cond.codeWith yL_act cL_act 10 (some .boolean) kr_hh :: kr_all)) := kr_gW kq_461 kq_462 kq_24 kq_463
theorem kg_RL_82 : GoodIn kr_all (wsV RL 82 RX0 yX0_knots (Cond.code yX0_knots cX0_knots 1 (some .int) :: kr_all)) := kr_gV kq_245 kq_246 kq_247 kq_25 kq_248
theorem kg_RL_121 : GoodIn kr_all (wsV RL 121 RX0 yX0_strongestLine (Cond.code yX0_strongestLine cX0_strongestLine 5 (some .int) :: kr_all)) := kr_gV kq_362 kq_363 kq_364 kq_25 kq_365
set_option maxHeartbeats 4000000 in
set_option maxRecDepth 100000 in
theorem law_pass {p : Program} {l : Launch} {e : Env} {s : State} {m : MethodId} {below : List Frame} {meth : Method} {c : Code} {ls : Array Slot} {D : va_G} {cy cz : ClassId} {h g b N L t ld mo q : Nat} {a : Nat → Nat} {ad : Nat → Nat → Nat} {A : Nat → Nat → Int32} {x : Int32} {dg : Int64} {H : Heap} {locs : List Loc} {cells slots : Nat} {Q : State → Prop} (hx : p.tables.exec = Jvm.exec) (hb : c.code = cL_law) (hml : c.maxLocals = 22) (hts : ∀ w ∈ kr_all, w.before #[Value.ref b] s = true) (hown : s.vm.findClass RL = some m.cls) (hK : va_K D vwCl [(cy, .int), (cz, .array .int)] s) (hw : kr_wf N L A) (hx0 : kr_wx N L A) (hN2 : 2 ≤ N) (hL1 : 1 ≤ L) (hJ : va_P D vwCl (kr_JW cy cz h a g ad N L A) H) (hc9 : cells ≤ 5000) (hs9 : slots ≤ 50000) {Ls : Nat} {xs : Nat → Int32} (hl0 : l.stackTraces = false) (hZ : kr_AO s) (hT : kr_T s) (hX : va_X b Ls xs s s.heap) (hbl : b < s.heap.size) (hLs : Ls ≤ 260) (ht : t < 8) (hc8 : cells ≤ 4000) (hs8 : slots ≤ 40000) (hD : va_D (kr_new s) (kr_JW cy cz h a g ad N L A)) (hS : va_S (kr_new s) s.heap H locs) (hl : lv_has ls 22 [(0, .ref b), (1, .ref h), (2, .ref g), (3, .int (nI t))]) (kk : ∀ (N L : Nat) (A : Nat → Nat → Int32) (ad : Nat → Nat → Nat) (H : Heap) (locs : List Loc) (ls : Array Slot), kr_Aok (N, L, A, ad) → va_P D vwCl (kr_JW cy cz h a g ad N L A) H → va_D (kr_new s) (kr_JW cy cz h a g ad N L A) → va_S (kr_new s) s.heap H locs → lv_has ls 22 [(0, .ref b), (1, .ref h), (2, .ref g), (3, .int (nI t))] → W p l e room_1 s m #[Value.ref b] below meth c H locs (cells + 72) (slots + 270) Q (F0 m 1164 ls [])) : W p l e room_1 s m #[Value.ref b] below meth c H locs cells slots Q (F0 m 28 ls []) := by
  have hN := hw.1
  have hL := hw.2.1
  have hK0 : va_K D vwCl [(cy, .int)] s := hK.sub [0] rfl
  have hPc : va_P D vwCl (kr_W0 cy h a N L A) H := kr_Pl hJ
  have hP : va_P D vwCl (kr_SW cy cz g ad N L A) H := kr_Pr hJ
  have hA : ∀ q : Nat, s.heap.size ≤ q → kr_new s q := fun q h9 => h9
  have hbA : ¬ (kr_new s) b := Nat.not_le.mpr hbl
  refine lv_aload_n hx hb dL_law_28 rfl (lv_at hl 0 rfl) ?_
  refine lv_iload_n hx hb dL_law_29 rfl (lv_at hl 3 rfl) ?_
  refine lv_iconst (v := 1) hx hb dL_law_30 (by decide) ?_
  refine kr_iaddN hx hb t 1 dL_law_31 ?_
  refine kr_sI (n := 2) (As := [.ref b, .int (nI (t + 1))]) (rest := []) ⟨hx, hb, hml, hown, hts⟩ (c_L_cell l b Ls xs (t + 1) (by omega) hLs) kg_RL_65 ⟨rfl, rfl⟩ (by decide +kernel) ⟨Nat.le_of_ble_eq_true rfl, Nat.le_of_ble_eq_true rfl⟩ (kr_psX hX hbl hbA hS) rfl hl.1 rfl (Nat.le_of_ble_eq_true rfl) dL_law_32 ⟨show cells + 0 ≤ 960946 by omega, show slots + 0 ≤ 6218629 by omega⟩ (fun x9 _ => ?_)
  refine lv_iconst (v := 2) hx hb dL_law_35 (by decide) ?_
  refine lv_ishr hx hb dL_law_36 ?_
  refine lv_bipush (v := 53) hx hb dL_law_37 (by decide) ?_
  refine lv_iload_n hx hb dL_law_39 rfl (lv_at hl 3 rfl) ?_
  refine kr_imulN hx hb 53 t dL_law_40 ?_
  refine lv_iadd hx hb dL_law_41 ?_
  obtain ⟨x, hx9⟩ : ∃ z, z = (x9 >>> (2 &&& 31)) + (nI (53 * t)) := ⟨_, rfl⟩
  rw [← hx9]
  clear hx9
  refine lv_istore (lv' := [(4, .int x), (0, .ref b), (1, .ref h), (2, .ref g), (3, .int (nI t))]) hx hb dL_law_42 hl (by decide) rfl (fun ls hl => ?_)
  refine lv_iconst (v := 0) hx hb dL_law_44 (by decide) ?_
  refine lv_istore (lv' := [(5, .int 0), (4, .int x), (0, .ref b), (1, .ref h), (2, .ref g), (3, .int (nI t))]) hx hb dL_law_45 hl (by decide) rfl (fun ls hl => ?_)
  clear hPc hP hK0
  refine W.widen (k := cells + 20 * 0) (n := slots + 80 * 0) (by omega) (by omega) ?_
  refine kr_lpC (nL := 22) (fun z : Nat × kr_AV => [(0, .ref b), (1, .ref h), (2, .ref g), (3, .int (nI t)), (4, .int x), (5, .int (nI z.1))]) (fun z H locs => (z.1 ≤ 3 ∧ kr_Aok z.2) ∧ va_P D vwCl (kr_JU cy cz h a g z.2) H ∧ va_D (kr_new s) (kr_JU cy cz h a g z.2) ∧ va_S (kr_new s) s.heap H locs) (fun z => 3 - z.1) (fun z => cells + 20 * z.1) (fun z => slots + 80 * z.1) ?_ (0, (N, L, A, ad)) ⟨⟨Nat.zero_le _, ⟨hw, hx0, hN2, hL1⟩⟩, hJ, hD, hS⟩ (lv_sub hl [2, 3, 4, 5, 1, 0] rfl)
  clear hl hJ hD hS hw hx0 hN2 hL1 hN hL
  intro z H locs ls hI hl ih
  obtain ⟨k, N, L, A, ad⟩ := z
  obtain ⟨⟨hk3, hok⟩, hJ, hD, hS⟩ : (k ≤ 3 ∧ kr_Aok (N, L, A, ad)) ∧ va_P D vwCl (kr_JW cy cz h a g ad N L A) H ∧ va_D (kr_new s) (kr_JW cy cz h a g ad N L A) ∧ va_S (kr_new s) s.heap H locs := hI
  obtain ⟨hw, hx0, hN2, hL1⟩ : kr_wf N L A ∧ kr_wx N L A ∧ 2 ≤ N ∧ 1 ≤ L := hok
  have hl : lv_has ls 22 [(0, .ref b), (1, .ref h), (2, .ref g), (3, .int (nI t)), (4, .int x), (5, .int (nI k))] := hl
  show W p l e room_1 s m #[Value.ref b] below meth c H locs (cells + 20 * k) (slots + 80 * k) Q (F0 m 47 ls [])
  have hN := hw.1
  have hL := hw.2.1
  have hK0 : va_K D vwCl [(cy, .int)] s := hK.sub [0] rfl
  have hPc : va_P D vwCl (kr_W0 cy h a N L A) H := kr_Pl hJ
  have hP : va_P D vwCl (kr_SW cy cz g ad N L A) H := kr_Pr hJ
  refine lv_iload hx hb dL_law_47 (lv_at hl 5 rfl) ?_
  refine lv_iconst (v := 3) hx hb dL_law_49 (by decide) ?_
  refine lv_icmp_ge (tgt := 82) hx hb dL_law_50 (by decide) (fun c50 => ?_) (fun c50 => ?_)
  · have hk9 : k = 3 := by have := kr_ge (a := k) (b := 3) (by omega) (by decide) c50; omega
    subst hk9
    refine W.widen (k := cells + 60) (n := slots + 240) (by omega) (by omega) ?_
    refine lv_aload_n hx hb dL_law_82 rfl (lv_at hl 1 rfl) ?_
    refine kr_vL (n := 0) (As := []) (rest := []) ⟨hx, hb, hml, hown, hts⟩ (c_X0_digest l D cy h a N L A hw) kg_RL_78 ⟨rfl, rfl⟩ (by decide +kernel) ⟨Nat.le_of_ble_eq_true rfl, Nat.le_of_ble_eq_true rfl⟩ (kr_pv0 hPc hK0) rfl hl.1 rfl (Nat.le_of_ble_eq_true rfl) dL_law_83 ⟨show (cells + 60) + 0 ≤ 960946 by omega, show (slots + 240) + 0 ≤ 6218629 by omega⟩ (fun r9 e9 => ?_)
    subst e9
    obtain ⟨dg, hdg⟩ : ∃ z, kr_dg N L A = z := ⟨_, rfl⟩
    rw [hdg]
    refine lv_lstore (lv' := [(5, .long dg), (0, .ref b), (1, .ref h), (2, .ref g), (3, .int (nI t)), (4, .int x)]) hx hb dL_law_86 hl (by decide) rfl (fun ls hl => ?_)
    refine lv_aload_n hx hb dL_law_88 rfl (lv_at hl 2 rfl) ?_
    refine kr_vI (n := 0) (As := []) (rest := []) ⟨hx, hb, hml, hown, hts⟩ (c_X0_knots l D cy h a N L A) kg_RL_82 ⟨rfl, rfl⟩ (by decide +kernel) ⟨Nat.le_of_ble_eq_true rfl, Nat.le_of_ble_eq_true rfl⟩ (kr_pv0 hPc hK0) rfl hl.1 rfl (Nat.le_of_ble_eq_true rfl) dL_law_89 ⟨show (cells + 60) + 0 ≤ 960946 by omega, show (slots + 240) + 0 ≤ 6218629 by omega⟩ (fun r9 e9 => ?_)
    subst e9
    refine lv_istore (lv' := [(7, .int (nI N)), (5, .long dg), (0, .ref b), (1, .ref h), (2, .ref g), (3, .int (nI t)), (4, .int x)]) hx hb dL_law_92 hl (by decide) rfl (fun ls hl => ?_)
    refine lv_iconst (v := 0) hx hb dL_law_94 (by decide) ?_
    refine lv_istore (lv' := [(8, .int 0), (7, .int (nI N)), (5, .long dg), (0, .ref b), (1, .ref h), (2, .ref g), (3, .int (nI t)), (4, .int x)]) hx hb dL_law_95 hl (by decide) rfl (fun ls hl => ?_)
    refine law_ranks (x := x) (ld := 0) (mo := 0) (q := 0) hx hb hml hts hown hK hw hx0 hN2 hL1 hJ (by omega) (by omega) (lv_sub hl [3, 4, 5, 6, 7, 2, 1, 0] rfl) (fun ls hl => ?_)
    refine lv_iconst (v := 1) hx hb dL_law_191 (by decide) ?_
    refine lv_iload hx hb dL_law_192 (lv_at hl 4 rfl) ?_
    refine lv_iconst (v := 3) hx hb dL_law_194 (by decide) ?_
    refine lv_ishr hx hb dL_law_195 ?_
    refine lv_sipush (v := 999) hx hb dL_law_196 (by decide) ?_
    refine kr_sI (n := 2) (As := [.int (x >>> (3 &&& 31)), .int 999]) (rest := [.int 1]) ⟨hx, hb, hml, hown, hts⟩ (c_L_below l (x >>> (3 &&& 31)) 999 (by omega) (by omega)) kg_RL_18 ⟨rfl, rfl⟩ (by decide +kernel) ⟨Nat.le_of_ble_eq_true rfl, Nat.le_of_ble_eq_true rfl⟩ ⟨kr_blT, fun U hU hW => ⟨rfl, trivial⟩⟩ rfl hl.1 rfl (Nat.le_of_ble_eq_true rfl) dL_law_199 ⟨show (cells + 60) + 0 ≤ 960946 by omega, show (slots + 240) + 0 ≤ 6218629 by omega⟩ (fun r9 e9 => ?_)
    obtain ⟨jl, hjl, rfl⟩ := e9
    refine kr_iaddN hx hb 1 jl dL_law_202 ?_
    obtain ⟨ld, hld0⟩ : ∃ z, z = 1 + jl := ⟨_, rfl⟩
    rw [← hld0]
    have hld1 : 1 ≤ ld := by omega
    have hld2 : ld ≤ 999 := by omega
    refine lv_istore (lv' := [(8, .int (nI ld)), (0, .ref b), (1, .ref h), (2, .ref g), (3, .int (nI t)), (4, .int x), (5, .long dg), (7, .int (nI N))]) hx hb dL_law_203 hl (by decide) rfl (fun ls hl => ?_)
    refine lv_sipush (v := 999) hx hb dL_law_205 (by decide) ?_
    refine lv_iload hx hb dL_law_208 (lv_at hl 0 rfl) ?_
    refine lv_iload hx hb dL_law_210 (lv_at hl 5 rfl) ?_
    refine lv_iconst (v := 5) hx hb dL_law_212 (by decide) ?_
    refine lv_ishr hx hb dL_law_213 ?_
    refine lv_sipush (v := 300) hx hb dL_law_214 (by decide) ?_
    refine kr_sI (n := 2) (As := [.int (x >>> (5 &&& 31)), .int 300]) (rest := [.int (nI ld), .int 999]) ⟨hx, hb, hml, hown, hts⟩ (c_L_below l (x >>> (5 &&& 31)) 300 (by omega) (by omega)) kg_RL_18 ⟨rfl, rfl⟩ (by decide +kernel) ⟨Nat.le_of_ble_eq_true rfl, Nat.le_of_ble_eq_true rfl⟩ ⟨kr_blT, fun U hU hW => ⟨rfl, trivial⟩⟩ rfl hl.1 rfl (Nat.le_of_ble_eq_true rfl) dL_law_217 ⟨show (cells + 60) + 0 ≤ 960946 by omega, show (slots + 240) + 0 ≤ 6218629 by omega⟩ (fun r9 e9 => ?_)
    obtain ⟨jm, hjm, rfl⟩ := e9
    refine kr_iaddN hx hb ld jm dL_law_220 ?_
    refine va_mmin hx hb (hml.trans hl.1.symm) hown (hts _ kq_524) (hts _ kq_243) (hts _ kq_33) (hts _ kq_244) (Nat.le_of_ble_eq_true rfl) (Nat.le_of_ble_eq_true rfl) (show cells + 60 ≤ 960946 by omega) (show slots + 240 ≤ 6218629 by omega) dL_law_221 ?_
    show W _ _ _ _ _ _ _ _ _ _ _ _ _ _ _ (F0 _ _ _ (.int (kr_mn 999 (nI (ld + jm))) :: _))
    obtain ⟨mo, hmo0⟩ : ∃ z, z = min 999 (ld + jm) := ⟨_, rfl⟩
    rw [show kr_mn 999 (nI (ld + jm)) = nI mo from (kr_mnN (a := 999) (by decide) (by omega)).trans (by rw [hmo0])]
    refine lv_istore (lv' := [(9, .int (nI mo)), (8, .int (nI ld)), (0, .ref b), (1, .ref h), (2, .ref g), (3, .int (nI t)), (4, .int x), (5, .long dg), (7, .int (nI N))]) hx hb dL_law_224 hl (by decide) rfl (fun ls hl => ?_)
    refine lv_iconst (v := 0) hx hb dL_law_226 (by decide) ?_
    refine lv_istore (lv' := [(10, .int 0), (9, .int (nI mo)), (8, .int (nI ld)), (0, .ref b), (1, .ref h), (2, .ref g), (3, .int (nI t)), (4, .int x), (5, .long dg), (7, .int (nI N))]) hx hb dL_law_227 hl (by decide) rfl (fun ls hl => ?_)
    refine law_knots (x := x) (q := 0) hx hb hml hts hown hK hw hx0 hN2 hL1 hJ (by omega) (by omega) hld1 hld2 (by omega) (by omega) (lv_sub hl [3, 4, 5, 6, 7, 8, 9, 2, 1, 0] rfl) (fun ls hl => ?_)
    obtain ⟨js, us, hjs, hus, esg, eus, hmax⟩ := kr_lnS hw hx0 hL1
    refine lv_aload_n hx hb dL_law_484 rfl (lv_at hl 1 rfl) ?_
    refine kr_vI (n := 0) (As := []) (rest := []) ⟨hx, hb, hml, hown, hts⟩ (c_X0_strongestLine l D cy h a N L A hw) kg_RL_121 ⟨rfl, rfl⟩ (by decide +kernel) ⟨Nat.le_of_ble_eq_true rfl, Nat.le_of_ble_eq_true rfl⟩ (kr_pv0 hPc hK0) rfl hl.1 rfl (Nat.le_of_ble_eq_true rfl) dL_law_485 ⟨show (cells + 60) + 0 ≤ 960946 by omega, show (slots + 240) + 0 ≤ 6218629 by omega⟩ (fun r9 e9 => ?_)
    subst e9
    rw [esg]
    refine lv_istore (lv' := [(10, .int (nI js)), (0, .ref b), (1, .ref h), (2, .ref g), (3, .int (nI t)), (4, .int x), (5, .long dg), (8, .int (nI ld))]) hx hb dL_law_488 hl (by decide) rfl (fun ls hl => ?_)
    refine lv_iconst (v := 0) hx hb dL_law_490 (by decide) ?_
    refine lv_istore (lv' := [(11, .int 0), (10, .int (nI js)), (0, .ref b), (1, .ref h), (2, .ref g), (3, .int (nI t)), (4, .int x), (5, .long dg), (8, .int (nI ld))]) hx hb dL_law_491 hl (by decide) rfl (fun ls hl => ?_)
    refine law_lines (x := x) (mo := 0) (q := 0) hx hb hml hts hown hK hw hx0 hN2 hL1 hJ (by omega) (by omega) hld1 hld2 hjs hus eus hmax (lv_sub hl [2, 3, 4, 5, 6, 7, 8, 1, 0] rfl) (fun ls hl => ?_)
    refine lv_aload_n hx hb dL_law_803 rfl (lv_at hl 1 rfl) ?_
    refine kr_vL (n := 0) (As := []) (rest := []) ⟨hx, hb, hml, hown, hts⟩ (c_X0_digest l D cy h a N L A hw) kg_RL_78 ⟨rfl, rfl⟩ (by decide +kernel) ⟨Nat.le_of_ble_eq_true rfl, Nat.le_of_ble_eq_true rfl⟩ (kr_pv0 hPc hK0) rfl hl.1 rfl (Nat.le_of_ble_eq_true rfl) dL_law_804 ⟨show (cells + 60) + 0 ≤ 960946 by omega, show (slots + 240) + 0 ≤ 6218629 by omega⟩ (fun r9 e9 => ?_)
    subst e9
    rw [hdg]
    refine lv_lload hx hb dL_law_807 (lv_at hl 5 rfl) ?_
    refine W.lcmp hx hb dL_law_809 ?_
    refine lv_if_eq (tgt := 815) hx hb dL_law_810 (by decide) (fun c810 => ?_) (fun c810 => absurd (kr_lg _) c810)
    refine lv_iload hx hb dL_law_815 (lv_at hl 4 rfl) ?_
    refine lv_iconst (v := 4) hx hb dL_law_817 (by decide) ?_
    refine lv_ishr hx hb dL_law_818 ?_
    refine lv_aload_n hx hb dL_law_819 rfl (lv_at hl 1 rfl) ?_
    refine kr_vI (n := 0) (As := []) (rest := [.int (x >>> (4 &&& 31))]) ⟨hx, hb, hml, hown, hts⟩ (c_X0_lines l D cy h a N L A) kg_RL_124 ⟨rfl, rfl⟩ (by decide +kernel) ⟨Nat.le_of_ble_eq_true rfl, Nat.le_of_ble_eq_true rfl⟩ (kr_pv0 hPc hK0) rfl hl.1 rfl (Nat.le_of_ble_eq_true rfl) dL_law_820 ⟨show (cells + 60) + 0 ≤ 960946 by omega, show (slots + 240) + 0 ≤ 6218629 by omega⟩ (fun r9 e9 => ?_)
    subst e9
    refine kr_sI (n := 2) (As := [.int (x >>> (4 &&& 31)), .int (nI L)]) (rest := []) ⟨hx, hb, hml, hown, hts⟩ (c_L_below l (x >>> (4 &&& 31)) L (by omega) (by omega)) kg_RL_18 ⟨rfl, rfl⟩ (by decide +kernel) ⟨Nat.le_of_ble_eq_true rfl, Nat.le_of_ble_eq_true rfl⟩ ⟨kr_blT, fun U hU hW => ⟨rfl, trivial⟩⟩ rfl hl.1 rfl (Nat.le_of_ble_eq_true rfl) dL_law_823 ⟨show (cells + 60) + 0 ≤ 960946 by omega, show (slots + 240) + 0 ≤ 6218629 by omega⟩ (fun r9 e9 => ?_)
    obtain ⟨q, hq, rfl⟩ := e9
    obtain ⟨hr9, er⟩ := hw.rc hq
    refine lv_istore (lv' := [(11, .int (nI q)), (0, .ref b), (1, .ref h), (2, .ref g), (3, .int (nI t)), (4, .int x), (5, .long dg), (8, .int (nI ld))]) hx hb dL_law_826 hl (by decide) rfl (fun ls hl => ?_)
    refine lv_aload_n hx hb dL_law_828 rfl (lv_at hl 2 rfl) ?_
    refine lv_iload hx hb dL_law_829 (lv_at hl 0 rfl) ?_
    refine kr_vI (n := 1) (As := [.int (nI q)]) (rest := []) ⟨hx, hb, hml, hown, hts⟩ (c_X0_ropesOf l D cy h a N L A q hw hq) kg_RL_130 ⟨rfl, rfl⟩ (by decide +kernel) ⟨Nat.le_of_ble_eq_true rfl, Nat.le_of_ble_eq_true rfl⟩ (kr_pv0 hPc hK0) rfl hl.1 rfl (Nat.le_of_ble_eq_true rfl) dL_law_831 ⟨show (cells + 60) + 0 ≤ 960946 by omega, show (slots + 240) + 0 ≤ 6218629 by omega⟩ (fun r9 e9 => ?_)
    subst e9
    rw [er]
    refine lv_istore (lv' := [(12, .int (nI (kr_rc A q))), (11, .int (nI q)), (0, .ref b), (1, .ref h), (2, .ref g), (3, .int (nI t)), (4, .int x), (5, .long dg), (8, .int (nI ld))]) hx hb dL_law_834 hl (by decide) rfl (fun ls hl => ?_)
    refine lv_iload hx hb dL_law_836 (lv_at hl 0 rfl) ?_
    refine lv_if_ne (tgt := 844) hx hb dL_law_838 (by decide) (fun c838 => ?_) (fun c838 => ?_)
    · have hr0 : 0 < kr_rc A q := Nat.pos_of_ne_zero (fun w => c838 (by rw [w]; rfl))
      refine law_best (x := x) (mo := 0) hx hb hml hts hown hK hw hx0 hN2 hL1 hJ (by omega) (by omega) hdg hq hr0 hD hS (lv_sub hl [2, 3, 4, 5, 6, 7, 8, 1, 0] rfl) (fun H locs ls hJ hD hS hl => ?_)
      refine law_pull (x := x) (mo := 0) hx hb hml hts hown hK hw hx0 hN2 hL1 hJ (by omega) (by omega) hZ hld1 hld2 hq hr0 hD hS hl (fun ad A H locs ls hw hx0 hJ hD hS hl => ?_)
      exact W.widen (k := cells + 72) (n := slots + 270) (by omega) (by omega) (kk N L A ad H locs ls ⟨hw, hx0, hN2, hL1⟩ hJ hD hS hl)
    · refine lv_goto (tgt := 1164) hx hb dL_law_841 (by decide) ?_
      exact W.widen (k := cells + 72) (n := slots + 270) (by omega) (by omega) (kk N L A ad H locs _ ⟨hw, hx0, hN2, hL1⟩ hJ hD hS (lv_sub hl [2, 3, 4, 5] rfl))
  · have hk9 : k < 3 := kr_lt (a := k) (b := 3) (by omega) (by decide) c50
    refine lv_aload_n hx hb dL_law_53 rfl (lv_at hl 1 rfl) ?_
    refine lv_aload_n hx hb dL_law_54 rfl (lv_at hl 2 rfl) ?_
    refine lv_iload hx hb dL_law_55 (lv_at hl 4 rfl) ?_
    refine lv_iconst (v := 3) hx hb dL_law_57 (by decide) ?_
    refine lv_iload hx hb dL_law_58 (lv_at hl 5 rfl) ?_
    refine kr_imulN hx hb 3 k dL_law_60 ?_
    refine lv_ishr hx hb dL_law_61 ?_
    refine lv_bipush (v := 29) hx hb dL_law_62 (by decide) ?_
    refine lv_iload hx hb dL_law_64 (lv_at hl 5 rfl) ?_
    refine kr_imulN hx hb 29 k dL_law_66 ?_
    refine lv_iadd hx hb dL_law_67 ?_
    refine kr_qI (V := kr_AV) (w1 := fun u => kr_JU cy cz h a g u) (wc := kr_JW cy cz h a g ad N L A) (wr := []) (vx_runSW (n := 3) (mc := 20) (ms := 80) (As := [.ref h, .ref g, .int ((x >>> ((nI (3 * k)) &&& 31)) + (nI (29 * k)))]) (rest := []) ⟨hx, hb, hml, hown, hts⟩ (c_L_act l hl0 D cy cz h a g ad N L A H.size ((x >>> ((nI (3 * k)) &&& 31)) + (nI (29 * k))) hw hx0 hN2 hL1) (vx_cwSW 3 hts kgh_act rfl rfl rfl (by decide +kernel) ⟨Nat.le_of_ble_eq_true rfl, Nat.le_of_ble_eq_true rfl⟩) ⟨kr_bla, fun U hU hW => ⟨rfl, by rw [hU], by rw [hU]; exact hJ, va_K.moved hW.alike hK, kr_Dt hD, hZ.moved hW.alike, hT.go hU (kr_keep hS) hW⟩⟩ rfl rfl hl.1 rfl (lv_room (Nat.le_of_ble_eq_true rfl)) dL_law_68 ⟨show cells + 20 * k + 20 ≤ 960946 by omega, show slots + 80 * k + 80 ≤ 6218629 by omega⟩) (fun _ t h9 => h9) (by rw [List.append_nil]; exact hJ) (by rw [List.append_nil]; exact hD) hS hA (fun r u H locs h9 hJ hD hS => ?_)
    rw [List.append_nil] at hJ hD
    obtain ⟨rfl, hok⟩ := h9
    refine lv_if_ne (tgt := 76) hx hb dL_law_71 (by decide) (fun c71 => ?_) (fun c71 => absurd c71 (by decide))
    refine lv_iinc (v := nI (k + 1)) (lv' := [(5, .int (nI (k + 1))), (0, .ref b), (1, .ref h), (2, .ref g), (3, .int (nI t)), (4, .int x)]) hx hb dL_law_76 hl (k := 5) rfl (kr_inc _) (by decide) rfl (fun ls hl => ?_)
    refine lv_goto (tgt := 47) hx hb dL_law_79 (by decide) ?_
    refine W.widen (k := cells + 20 * (k + 1)) (n := slots + 80 * (k + 1)) (by omega) (by omega) ?_
    exact ih (k + 1, u) H locs ls ⟨⟨show k + 1 ≤ 3 by omega, hok⟩, hJ, hD, hS⟩ (by show 3 - (k + 1) < 3 - k; omega) (lv_sub hl [1, 2, 3, 4, 5, 0] rfl)
