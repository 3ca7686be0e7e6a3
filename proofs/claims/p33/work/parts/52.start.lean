theorem kr_txs : ∀ q ∈ kr_tx, Cond.stringRef "KnotRack" q.1 q.2 ∈ lw_tbl ∧ Cond.exactly (Term.string "KnotRack" q.1) "java/lang/String" ∈ flatC (Jvm.Cond.and given_1 narrow_1) := by decide +kernel
theorem kr_T0 {s : State} {args : Array Value} (hts0 : ∀ w ∈ lw_tbl, w.before args s = true) (hgv : (Jvm.Cond.and given_1 narrow_1).before args s = true) : kr_T s := by
  have hs := flat_of_before _ hgv
  refine ⟨vx_Zqof (hts0 _ (List.mem_of_getElem? (i := 113) (by decide +kernel))) (hts0 _ (List.mem_of_getElem? (i := 27) (by decide +kernel))) (hs _ (by decide +kernel)) (fun _ _ h => h), vx_Zqof (hts0 _ (List.mem_of_getElem? (i := 115) (by decide +kernel))) (hts0 _ (List.mem_of_getElem? (i := 27) (by decide +kernel))) (hs _ (by decide +kernel)) (fun _ _ h => h), va_Nw.of rfl (hts0 _ (List.mem_of_getElem? (i := 90) (by decide +kernel))), va_Nw.of rfl (hts0 _ (List.mem_of_getElem? (i := 92) (by decide +kernel))), va_Nw.of rfl (hts0 _ (List.mem_of_getElem? (i := 94) (by decide +kernel))), va_Nw.of rfl (hts0 _ (List.mem_of_getElem? (i := 88) (by decide +kernel))), va_Nw.of rfl (hts0 _ (List.mem_of_getElem? (i := 173) (by decide +kernel))), va_Nw.of rfl (hts0 _ (List.mem_of_getElem? (i := 208) (by decide +kernel))), fun q hq => ?_⟩
  obtain ⟨h1, h2⟩ := kr_txs q hq
  obtain ⟨a, c, cA, kA, q1, -⟩ := Cond.exactly_spec (args := args) (first := s) (o := none) (s := s) (idx := []) (t := Term.string "KnotRack" q.1) (cls := "java/lang/String") (hs _ h2)
  exact ⟨a, vk_R.of (hts0 _ h1) q1⟩
theorem kg_RL_152 : GoodIn kr_all (wsV RL 152 RX1 yX1_isSame (Cond.code yX1_isSame cX1_isSame 6 (some .boolean) :: kr_all)) := kr_gV kq_418 kq_419 kq_420 kq_26 kq_421
set_option maxHeartbeats 4000000 in
set_option maxRecDepth 100000 in
theorem law_loop {p : Program} {l : Launch} {e : Env} {s : State} {m : MethodId} {below : List Frame} {meth : Method} {c : Code} {b Ls : Nat} {xs : Nat → Int32} {D : va_G} {cy cz : ClassId} {h g N L : Nat} {a : Nat → Nat} {ad : Nat → Nat → Nat} {A : Nat → Nat → Int32} {H : Heap} {locs : List Loc} {ls : Array Slot} {cells slots : Nat} (C0 : lw_At p s m meth c b Ls xs) (hLs : Ls ≤ 260) (hl0 : l.stackTraces = false) (hT : kr_T s) (hZ : kr_AO s) (hK : va_K D vwCl [(cy, .int), (cz, .array .int)] s) (hok : kr_Aok (N, L, A, ad)) (hJ : va_P D vwCl (kr_JW cy cz h a g ad N L A) H) (hD : va_D (kr_new s) (kr_JW cy cz h a g ad N L A)) (hS : va_S (kr_new s) s.heap H locs) (hl : lv_has ls 22 [(0, .ref b), (1, .ref h), (2, .ref g), (3, .int (nI 0))]) (hc9 : cells ≤ 100) (hs9 : slots ≤ 800) : W p l e room_1 s m #[Value.ref b] below meth c H locs cells slots (lw_Z below #[Value.ref b] s) (F0 m 22 ls []) := by
  obtain ⟨hx, hb, hr, hml, hown, hts0, hX, hbl, hlocks, hgv⟩ := id C0
  have hts : ∀ w ∈ kr_all, w.before #[Value.ref b] s = true := fun w hw => hts0 w (List.mem_filter.mp hw).1
  have hown : s.vm.findClass RL = some m.cls := hown
  have hb : c.code = cL_law := hb
  have hA : ∀ q : Nat, s.heap.size ≤ q → kr_new s q := fun q h9 => h9
  refine W.widen (k := 100 + 72 * 0) (n := 800 + 270 * 0) (by omega) (by omega) ?_
  refine kr_lpC (nL := 22) (fun z : Nat × kr_AV => [(0, .ref b), (1, .ref h), (2, .ref g), (3, .int (nI z.1))]) (fun z H locs => (z.1 ≤ 8 ∧ kr_Aok z.2) ∧ va_P D vwCl (kr_JU cy cz h a g z.2) H ∧ va_D (kr_new s) (kr_JU cy cz h a g z.2) ∧ va_S (kr_new s) s.heap H locs) (fun z => 8 - z.1) (fun z => 100 + 72 * z.1) (fun z => 800 + 270 * z.1) ?_ (0, (N, L, A, ad)) ⟨⟨Nat.zero_le _, hok⟩, hJ, hD, hS⟩ hl
  clear hl hJ hD hS hok
  intro z H locs ls hI hl ih
  obtain ⟨t, N, L, A, ad⟩ := z
  obtain ⟨⟨ht, hok⟩, hJ, hD, hS⟩ : (t ≤ 8 ∧ kr_Aok (N, L, A, ad)) ∧ va_P D vwCl (kr_JW cy cz h a g ad N L A) H ∧ va_D (kr_new s) (kr_JW cy cz h a g ad N L A) ∧ va_S (kr_new s) s.heap H locs := hI
  obtain ⟨hw, hx0, hN2, hL1⟩ : kr_wf N L A ∧ kr_wx N L A ∧ 2 ≤ N ∧ 1 ≤ L := hok
  have hl : lv_has ls 22 [(0, .ref b), (1, .ref h), (2, .ref g), (3, .int (nI t))] := hl
  show W p l e room_1 s m #[Value.ref b] below meth c H locs (100 + 72 * t) (800 + 270 * t) (lw_Z below #[Value.ref b] s) (F0 m 22 ls [])
  refine lv_iload_n hx hb dL_law_22 rfl (lv_at hl 3 rfl) ?_
  refine lv_bipush (v := 8) hx hb dL_law_23 (by decide) ?_
  refine lv_icmp_ge (tgt := 1170) hx hb dL_law_25 (by decide) (fun c25 => ?_) (fun c25 => ?_)
  · have hP : va_P D vwCl (kr_SW cy cz g ad N L A) H := kr_Pr hJ
    refine lv_aload_n hx hb dL_law_1170 rfl (lv_at hl 2 rfl) ?_
    refine lv_aload_n hx hb dL_law_1171 rfl (lv_at hl 1 rfl) ?_
    refine kr_vNI (n := 1) (mc := 1) (ms := 2) (BB := kr_new s) (As := [.ref h]) (rest := []) ⟨hx, hb, hml, hown, hts⟩ (c_X1_isSame l D cy cz g ad N L A _ h a hw hx0 hN2) kg_RL_152 ⟨rfl, rfl⟩ (by decide +kernel) ⟨Nat.le_of_ble_eq_true rfl, Nat.le_of_ble_eq_true rfl⟩ (va_recv hK hP (ci := 1) (q0 := 0) rfl rfl) hJ hK hD hZ hS hA rfl hl.1 rfl (Nat.le_of_ble_eq_true rfl) dL_law_1172 ⟨show (100 + 72 * t) + 1 ≤ 960946 by omega, show (800 + 270 * t) + 2 ≤ 6218629 by omega⟩ (fun r9 H locs e9 hk9 hJ hS => ?_)
    subst e9
    refine va_forget (fun q hq => hS.2.2 q hq) ?_
    refine W.widen (k := 960946) (n := 6218629) (by omega) (by omega) ?_
    exact lw_ret (d0 := s.drawn) (Drawn.sameBut.refl s.drawn lw_cs) hx hb hr hlocks dL_law_1175
  · have ht8 : t < 8 := kr_lt (a := t) (b := 8) (by omega) (by decide) c25
    refine law_pass (x := 0) (dg := 0) (ld := 0) (mo := 0) (q := 0) hx hb hml hts hown hK hw hx0 hN2 hL1 hJ (by omega) (by omega) hl0 hZ hT hX hbl hLs ht8 (by omega) (by omega) hD hS (lv_sub hl [0, 1, 2, 3] rfl) (fun N L A ad H locs ls hok hJ hD hS hl => ?_)
    refine lv_iinc (v := nI (t + 1)) (lv' := [(3, .int (nI (t + 1))), (0, .ref b), (1, .ref h), (2, .ref g)]) hx hb dL_law_1164 hl (k := 3) rfl (kr_inc _) (by decide) rfl (fun ls hl => ?_)
    refine lv_goto (tgt := 22) hx hb dL_law_1167 (by decide) ?_
    refine W.widen (k := 100 + 72 * (t + 1)) (n := 800 + 270 * (t + 1)) (by omega) (by omega) ?_
    exact ih (t + 1, (N, L, A, ad)) H locs ls ⟨⟨show t + 1 ≤ 8 by omega, hok⟩, hJ, hD, hS⟩ (by show 8 - (t + 1) < 8 - t; omega) (lv_sub hl [1, 2, 3, 0] rfl)
set_option maxHeartbeats 8000000 in
set_option maxRecDepth 100000 in
/-- THE LAW, from its entry -/
theorem whole_start {p : Program} {e : Env} {s : State} {m : MethodId} {below : List Frame} {meth : Method} {c : Code} (l : Launch) (hflags : l.flags = flags0) {b L : Nat} {xs : Nat → Int32} (hL : L ≤ 260) (C0 : lw_At p s m meth c b L xs) : W p l e room_1 s m #[Value.ref b] below meth c s.heap [] 0 0 (lw_Z below #[Value.ref b] s) (entryFrame m ([Value.ref b] : List Value).toArray 22) := by
  obtain ⟨hx, hb, hr, hml, hown, hts0, hX, hbl, hlocks, hgv⟩ := id C0
  have hl0 : l.stackTraces = false := by
    show (!l.flags.contains noTraceFlag) = false
    rw [hflags]; decide +kernel
  have hT : kr_T s := kr_T0 hts0 hgv
  have hZ0 : (Cond.arrayOver (.array .int)).before #[Value.ref b] s = true := hts0 _ (List.mem_of_getElem? (i := 469) (by decide +kernel))
  have hZ : kr_AO s := hZ0
  have hNw : va_Nw (.methodLinkNest RL 64 yX1_init "KnotRackLaw") s := va_Nw.of rfl (hts0 _ (List.mem_of_getElem? (i := 507) (by decide +kernel)))
  have hts : ∀ w ∈ kr_all, w.before #[Value.ref b] s = true := fun w hw => hts0 w (List.mem_filter.mp hw).1
  have hown : s.vm.findClass RL = some m.cls := hown
  have hb : c.code = cL_law := hb
  have hA : ∀ q : Nat, s.heap.size ≤ q → (kr_new s) q := fun _ h => h
  have hbA : ¬ (kr_new s) b := Nat.not_le.mpr hbl
  obtain ⟨ca, iS0, hKn0⟩ := u_known (C := RX0) (T := TX0) (N := 10) (n := 10) hts kr_wsX0 (hts _ kq_35)
  obtain ⟨cb, iS1, hKn1⟩ := u_known (C := RX1) (T := TX1) (N := 3) (n := 3) hts kr_wsX1 (hts _ kq_435)
  obtain ⟨D, hKc⟩ : ∃ D : va_G, ∀ (k : Nat) (q : vw_C), vwCl[k]? = some q → u_Kn s q.1 q.2.1 q.2.2 (D.1 k) (D.2 k) := by
    refine ⟨(fun k => if k = 0 then ca else cb, fun k => if k = 0 then iS0 else iS1), ?_⟩
    intro k q hq
    match k, hq with
    | 0, hq => cases hq; exact hKn0
    | 1, hq => cases hq; exact hKn1
    | k + 2, hq => simp [vwCl] at hq
  have hS : va_S (kr_new s) s.heap s.heap [] := va_S.rf
  have hK : va_K D vwCl [] s := ⟨hKc, fun k q h => by simp at h⟩
  have hP : va_P D vwCl [] s.heap := fun k q h => by simp at h
  have hD : va_D (kr_new s) [] := ⟨fun i j p q h => by simp at h, fun k q h => by simp at h⟩
  have hl := lv_entry ([.ref b]) (n := 22) (Nat.le_of_ble_eq_true rfl)
  rw [lg_entry_eq]
  generalize (lg_sl ([.ref b]) ++ List.replicate (22 - (lg_sl ([.ref b])).length) Slot.unset).toArray = ls at hl ⊢
  have hl : lv_has ls 22 [(0, .ref b)] := hl
  refine va_new (ci := 0) (fs := [.null, .null, .null, .null, .null, .int 0, .null, .int 0, .null, .null]) (C := RX0) (T := TX0) (N := 10) hx hb hts kr_wsX0 tyX0 tyX0_ok hown (hts _ kq_34) (hts _ kq_35) (hts _ kq_25) hK hP hD hS hA rfl (fun j hj => by rcases (show j = 0 ∨ j = 1 ∨ j = 2 ∨ j = 3 ∨ j = 4 ∨ j = 5 ∨ j = 6 ∨ j = 7 ∨ j = 8 ∨ j = 9 by omega) with rfl | rfl | rfl | rfl | rfl | rfl | rfl | rfl | rfl | rfl <;> rfl) (Nat.le_of_ble_eq_true rfl) (Nat.le_of_ble_eq_true rfl) dL_law_0 (fun q0 H hP hD hS => ?_)
  have hP : va_P D vwCl ([(q0, .inr (0, [.null, .null, .null, .null, .null, .int 0, .null, .int 0, .null, .null]))] ++ []) H := hP
  have hD : va_D (kr_new s) ([(q0, .inr (0, [.null, .null, .null, .null, .null, .int 0, .null, .int 0, .null, .null]))] ++ []) := hD
  have hP1 : va_P D vwCl [(q0, .inr (0, [.null, .null, .null, .null, .null, .int 0, .null, .int 0, .null, .null]))] H := kr_Pl hP
  have hD1 : va_D (kr_new s) [(q0, .inr (0, [.null, .null, .null, .null, .null, .int 0, .null, .int 0, .null, .null]))] := kr_Dl hD
  refine lv_dup hx hb dL_law_3 rfl ?_
  refine kr_qV (V := ClassId × (Nat → Nat)) (w1 := fun u => kr_W0 u.1 q0 u.2 0 0 (fun _ _ => 0)) (wc := [(q0, .inr (0, [.null, .null, .null, .null, .null, .int 0, .null, .int 0, .null, .null]))]) (wr := []) (va_runI (As := []) (rest := [.ref q0]) ⟨hx, hb, hml, hown, hts⟩ (c_X0_init l D q0 H.size) (cwI 0 hts (kr_gC kq_38) rfl rfl rfl (hts _ kq_25) (hts _ kq_36) (hts _ kq_37) rfl (by decide +kernel) ⟨Nat.le_of_ble_eq_true rfl, Nat.le_of_ble_eq_true rfl⟩) ⟨fun a U g mk q => by obtain ⟨w0, w1, qP, qK, qD⟩ := q; exact ⟨w0, w1, qP, va_K.moved (u := U) (U := U.calling g mk a) (Vm.Alike.refl U.vm) qK, qD⟩, fun U hU hW => ⟨rfl, by rw [hU], by rw [hU]; exact hP1, va_K.moved hW.alike hK, hD1.weaken (fun _ _ _ _ => trivial)⟩⟩ rfl rfl hl.1 rfl (lv_room (Nat.le_of_ble_eq_true rfl)) dL_law_4 ⟨Nat.le_of_ble_eq_true rfl, Nat.le_of_ble_eq_true rfl⟩) (fun _ t h9 => ⟨h9.1, h9.2.2⟩) hP hD hS hA (fun u t H locs ht hvm hB _ hP hD hS => ?_)
  obtain ⟨cy, a⟩ := u
  have hK : va_K D vwCl [(cy, .int)] s := va_K.moved hvm.symm hB.2.1
  have hP : va_P D vwCl (kr_W0 cy q0 a 0 0 (fun _ _ => 0)) H := kr_Pl hP
  have hD : va_D (kr_new s) (kr_W0 cy q0 a 0 0 (fun _ _ => 0)) := kr_Dl hD
  clear hB ht hvm hP1 hD1
  refine W.widen (k := 9) (n := 156) (by decide) (by decide) ?_
  refine lv_astore_n (lv' := [(1, .ref q0), (0, .ref b)]) hx hb dL_law_7 rfl hl (by decide) rfl (fun ls hl => ?_)
  refine lv_aload_n hx hb dL_law_8 rfl (lv_at hl 0 rfl) ?_
  refine lv_aload_n hx hb dL_law_9 rfl (lv_at hl 1 rfl) ?_
  have hF : ∀ q, va_A (kr_W0 cy q0 a 0 0 (fun _ _ => 0)) H.size q → kr_new s q := kr_fr2 (wr := []) (by rw [List.append_nil]; exact hD) hS hA
  have hbW : ¬ va_A (kr_W0 cy q0 a 0 0 (fun _ _ => 0)) H.size b := fun w => hbA (hF b w)
  refine va_callr (va_runS (n := 2) (mc := 80) (ms := 620) (As := [.ref q0, .ref b]) (rest := []) ⟨hx, hb, hml, hown, hts⟩ (c_L_build l D cy q0 a H.size b L xs hL hbW) (va_cwS 2 hts kgs_RL_70 rfl rfl rfl (by decide +kernel) ⟨Nat.le_of_ble_eq_true rfl, Nat.le_of_ble_eq_true rfl⟩) ⟨kr_blb, fun U hU hW => ⟨rfl, by rw [hU], by rw [hU]; exact hP, va_K.moved hW.alike hK, kr_Dt hD, hZ.moved hW.alike, va_Nw.warmM hW hNw, by rw [hU]; exact (hX.kept (hS.2.1 b hbl hbA)).moved hW.alike, by rw [hU]; exact Nat.lt_of_lt_of_le hbl hS.1⟩⟩ rfl rfl hl.1 rfl (lv_room (Nat.le_of_ble_eq_true rfl)) dL_law_10 ⟨Nat.le_of_ble_eq_true rfl, Nat.le_of_ble_eq_true rfl⟩) hS (fun q _ h => hF q h) hF (fun u g t H1 locs1 ht hvm hok hB _ _ hS => ?_)
  obtain ⟨cz, N, L9, A, ad⟩ := u
  obtain ⟨hJ, hK2, hD2⟩ := hB
  rw [ht] at hJ
  have hK : va_K D vwCl [(cy, .int), (cz, .array .int)] s := va_K.moved hvm.symm hK2
  have hD : va_D (kr_new s) (kr_JW cy cz q0 a g ad N L9 A) := ⟨hD2.1, fun k q h9 => hF _ (hD2.2 k q h9)⟩
  refine W.widen (k := 100) (n := 800) (by decide) (by decide) ?_
  refine lv_astore_n (lv' := [(2, .ref g), (1, .ref q0), (0, .ref b)]) hx hb dL_law_13 rfl hl (by decide) rfl (fun ls hl => ?_)
  refine lv_aload_n hx hb dL_law_14 rfl (lv_at hl 0 rfl) ?_
  refine lv_ifnonnull (tgt := 20) hx hb dL_law_15 (by decide) ?_
  refine lv_iconst (v := 0) hx hb dL_law_20 (by decide) ?_
  refine lv_istore_n (lv' := [(3, .int 0), (2, .ref g), (1, .ref q0), (0, .ref b)]) hx hb dL_law_21 rfl hl (by decide) rfl (fun ls hl => ?_)
  exact law_loop C0 hL hl0 hT hZ hK hok hJ hD hS (lv_sub hl [3, 2, 1, 0] rfl) (by decide) (by decide)
