/-- what build hands over -/
abbrev kr_BQ (D : va_G) (cy : ClassId) (h : Nat) (a : Nat → Nat) (AA : Nat → Prop) : Array Value → State → Outcome → State → Prop := va_Qr (S := ClassId × kr_AV) (fun u => kr_Aok u.2) (fun u g t => va_P D vwCl (kr_JU cy u.1 h a g u.2) t.heap ∧ va_K D vwCl [(cy, .int), (u.1, .array .int)] t ∧ va_D AA (kr_JU cy u.1 h a g u.2)) AA
def kr_Bw (D : va_G) (ws : va_W) (cy : ClassId) (sz b Ls : Nat) (xs : Nat → Int32) (U : State) : Prop := U.heap.size = sz ∧ va_P D vwCl ws U.heap ∧ va_K D vwCl [(cy, .int)] U ∧ va_D (fun _ => True) ws ∧ kr_AO U ∧ va_Nw (.methodLinkNest RL 64 yX1_init "KnotRackLaw") U ∧ kr_Xs b Ls xs U
theorem kr_blb {D : va_G} {ws : va_W} {cy : ClassId} {sz b Ls : Nat} {xs : Nat → Int32} {av : List Value} : FrameBlind (va_Pc av (kr_Bw D ws cy sz b Ls xs)) := fun a U g mk q => ⟨q.1, q.2.1, q.2.2.1, va_K.moved (u := U) (U := U.calling g mk a) (Vm.Alike.refl U.vm) q.2.2.2.1, q.2.2.2.2.1, q.2.2.2.2.2.1.calling g mk a, va_Nw.same rfl (U := U.calling g mk a) rfl q.2.2.2.2.2.2.1, va_X.moved (u := U) (U := U.calling g mk a) (Vm.Alike.refl U.vm) q.2.2.2.2.2.2.2.1, q.2.2.2.2.2.2.2.2⟩
theorem kr_blI {D : va_G} {ws : va_W} {cy : ClassId} {sz : Nat} {av : List Value} : FrameBlind (va_Pc av (fun U => U.heap.size = sz ∧ va_P D vwCl ws U.heap ∧ va_K D vwCl [(cy, .int)] U ∧ va_D (fun _ => True) ws ∧ kr_AO U)) := fun a U g mk q => ⟨q.1, q.2.1, q.2.2.1, va_K.moved (u := U) (U := U.calling g mk a) (Vm.Alike.refl U.vm) q.2.2.2.1, q.2.2.2.2.1, q.2.2.2.2.2.calling g mk a⟩
set_option maxHeartbeats 4000000 in
set_option maxRecDepth 100000 in
theorem bld_lines {p : Program} {l : Launch} {e : Env} {s : State} {m : MethodId} {below : List Frame} {meth : Method} {c : Code} {ls : Array Slot} {D : va_G} {cy cz : ClassId} {h g b Ls n k q pl : Nat} {a : Nat → Nat} {ad : Nat → Nat → Nat} {A : Nat → Nat → Int32} {xs : Nat → Int32} {AA : Nat → Prop} {H : Heap} {locs : List Loc} {cells slots : Nat} {Q : State → Prop} {x : Int32} (hx : p.tables.exec = Jvm.exec) (hb : c.code = cL_build) (hml : c.maxLocals = 9) (hts : ∀ w ∈ kr_all, w.before #[Value.ref h, Value.ref b] s = true) (hown : s.vm.findClass RL = some m.cls) (hlocks : meth.locks = false) (hA : ∀ q : Nat, s.heap.size ≤ q → AA q) (hK : va_K D vwCl [(cy, .int), (cz, .array .int)] s) (hZ : kr_AO s) (hX : va_X b Ls xs s s.heap) (hbl : b < s.heap.size) (hbA : ¬ AA b) (hLs : Ls ≤ 260) (hr : meth.sig.returnType = some (.object "KnotRackLaw$Sim")) (hn0 : 2 ≤ n) (hn : n ≤ 14) (hw : kr_wf n 0 A) (hx0 : kr_wx n 0 A) (hJ : va_P D vwCl (kr_JW cy cz h a g ad n 0 A) H) (hD : va_D AA (kr_JW cy cz h a g ad n 0 A)) (hS : va_S AA s.heap H locs) (hl : lv_has ls 9 [(0, .ref h), (1, .ref b), (2, .ref g), (3, .int (nI n)), (4, .int (nI 0))]) (hc1 : cells ≤ 32) (hc2 : slots ≤ 311) : W p l e ({ frames := 10, cells := 80, slots := 620, locals := 300 } : Room) s m #[Value.ref h, Value.ref b] below meth c H locs cells slots (MQ below (kr_BQ D cy h a AA) #[Value.ref h, Value.ref b] s 80 620 AA) (F0 m 242 ls []) := by
  refine W.widen (k := 32 + 12 * 0) (n := 311 + 76 * 0) (by omega) (by omega) ?_
  refine kr_lpC (nL := 9) (fun z : Nat × (Nat → Nat → Nat) × (Nat → Nat → Int32) => [(0, .ref h), (1, .ref b), (2, .ref g), (3, .int (nI n)), (4, .int (nI z.1))]) (fun z H locs => (z.1 ≤ 4 ∧ kr_wf n z.1 z.2.2 ∧ kr_wx n z.1 z.2.2) ∧ va_P D vwCl (kr_JW cy cz h a g z.2.1 n z.1 z.2.2) H ∧ va_D AA (kr_JW cy cz h a g z.2.1 n z.1 z.2.2) ∧ va_S AA s.heap H locs) (fun z => 4 - z.1) (fun z => 32 + 12 * z.1) (fun z => 311 + 76 * z.1) ?_ (0, ad, A) ⟨⟨Nat.zero_le _, hw, hx0⟩, hJ, hD, hS⟩ hl
  clear hl hJ hD hS hw hx0
  intro z H locs ls hI hl ih
  obtain ⟨q, ad, A⟩ := z
  obtain ⟨⟨hq4, hw, hx0⟩, hJ, hD, hS⟩ : (q ≤ 4 ∧ kr_wf n q A ∧ kr_wx n q A) ∧ va_P D vwCl (kr_JW cy cz h a g ad n q A) H ∧ va_D AA (kr_JW cy cz h a g ad n q A) ∧ va_S AA s.heap H locs := hI
  have hl : lv_has ls 9 [(0, .ref h), (1, .ref b), (2, .ref g), (3, .int (nI n)), (4, .int (nI q))] := hl
  show W p l e ({ frames := 10, cells := 80, slots := 620, locals := 300 } : Room) s m #[Value.ref h, Value.ref b] below meth c  H locs (32 + 12 * q) (311 + 76 * q) (MQ below (kr_BQ D cy h a AA) #[Value.ref h, Value.ref b] s 80 620 AA) (F0 m 242 ls [])
  refine lv_iload hx hb dL_build_242 (lv_at hl 4 rfl) ?_
  refine lv_iconst (v := 1) hx hb dL_build_244 (by decide) ?_
  refine lv_aload_n hx hb dL_build_245 rfl (lv_at hl 1 rfl) ?_
  refine lv_iconst (v := 0) hx hb dL_build_246 (by decide) ?_
  refine kr_sI (n := 2) (As := [.ref b, .int 0]) (rest := [.int 1, .int (nI q)]) ⟨hx, hb, hml, hown, hts⟩ (c_L_cell l b Ls xs 0 (by omega) hLs) kg_RL_65 ⟨rfl, rfl⟩ (by decide +kernel) ⟨Nat.le_of_ble_eq_true rfl, Nat.le_of_ble_eq_true rfl⟩ (kr_psX hX hbl hbA hS) rfl hl.1 rfl (Nat.le_of_ble_eq_true rfl) dL_build_247 ⟨show (32 + 12 * q) + 0 ≤ 80 by omega, show (311 + 76 * q) + 0 ≤ 620 by omega⟩ (fun x9 _ => ?_)
  refine lv_iconst (v := 5) hx hb dL_build_250 (by decide) ?_
  refine lv_ishr hx hb dL_build_251 ?_
  refine lv_iconst (v := 4) hx hb dL_build_252 (by decide) ?_
  refine kr_sI (n := 2) (As := [.int (x9 >>> (5 &&& 31)), .int 4]) (rest := [.int 1, .int (nI q)]) ⟨hx, hb, hml, hown, hts⟩ (c_L_below l (x9 >>> (5 &&& 31)) 4 (by omega) (by omega)) kg_RL_18 ⟨rfl, rfl⟩ (by decide +kernel) ⟨Nat.le_of_ble_eq_true rfl, Nat.le_of_ble_eq_true rfl⟩ ⟨kr_blT, fun U hU hW => ⟨rfl, trivial⟩⟩ rfl hl.1 rfl (Nat.le_of_ble_eq_true rfl) dL_build_253 ⟨show (32 + 12 * q) + 0 ≤ 80 by omega, show (311 + 76 * q) + 0 ≤ 620 by omega⟩ (fun r9 e9 => ?_)
  obtain ⟨j4, hj4, rfl⟩ := e9
  refine kr_iaddN hx hb 1 j4 dL_build_256 ?_
  refine lv_icmp_ge (tgt := 495) hx hb dL_build_257 (by decide) (fun c257 => ?_) (fun c257 => ?_)
  · have hL1 : 1 ≤ q := by have := kr_ge (a := q) (b := 1 + j4) (by omega) (by omega) c257; omega
    refine lv_aload_n hx hb dL_build_495 rfl (lv_at hl 2 rfl) ?_
    refine W.widen (k := 80) (n := 620) (by omega) (by omega) ?_
    exact W.aret hx hb hr (Or.inl ⟨_, rfl⟩) (Or.inr ⟨g, rfl⟩) (fun t ht hW => ⟨⟨(cz, (n, q, A, ad)), g, rfl, ⟨hw, hx0, hn0, hL1⟩, by rw [ht]; exact hJ, va_K.moved hW.alike hK, hD⟩, hS.F ht⟩) hS.2.2 dL_build_496 hlocks
  · have hq5 : q < 4 := by have := kr_lt (a := q) (b := 1 + j4) (by omega) (by omega) c257; omega
    refine bld_line (k := 0) (pl := 0) (x := 0) hx hb hml hts hown hlocks hA hK hZ hX hbl hbA hLs hn0 hn hq5 hw hx0 hJ hD hS (lv_sub hl [0, 1, 2, 3, 4] rfl) (by omega) (by omega) (fun ad A H locs ls hw hx0 hJ hD hS hl => ?_)
    refine lv_iinc (v := nI (q + 1)) (lv' := [(4, .int (nI (q + 1))), (0, .ref h), (1, .ref b), (2, .ref g), (3, .int (nI n))]) hx hb dL_build_489 hl (k := 4) rfl (kr_inc _) (by decide) rfl (fun ls hl => ?_)
    refine lv_goto (tgt := 242) hx hb dL_build_492 (by decide) ?_
    refine W.widen (k := 32 + 12 * (q + 1)) (n := 311 + 76 * (q + 1)) (by omega) (by omega) ?_
    exact ih (q + 1, ad, A) _ _ ls ⟨⟨show q + 1 ≤ 4 by omega, hw, hx0⟩, hJ, hD, hS⟩ (by show 4 - (q + 1) < 4 - q; omega) (lv_sub hl [1, 2, 3, 4, 0] rfl)
set_option maxHeartbeats 4000000 in
set_option maxRecDepth 100000 in
theorem bld_knots {p : Program} {l : Launch} {e : Env} {s : State} {m : MethodId} {below : List Frame} {meth : Method} {c : Code} {ls : Array Slot} {D : va_G} {cy cz : ClassId} {h g b Ls n k q pl : Nat} {a : Nat → Nat} {ad : Nat → Nat → Nat} {A : Nat → Nat → Int32} {xs : Nat → Int32} {AA : Nat → Prop} {H : Heap} {locs : List Loc} {cells slots : Nat} {Q : State → Prop} {x : Int32} (hx : p.tables.exec = Jvm.exec) (hb : c.code = cL_build) (hml : c.maxLocals = 9) (hts : ∀ w ∈ kr_all, w.before #[Value.ref h, Value.ref b] s = true) (hown : s.vm.findClass RL = some m.cls) (hlocks : meth.locks = false) (hA : ∀ q : Nat, s.heap.size ≤ q → AA q) (hK : va_K D vwCl [(cy, .int), (cz, .array .int)] s) (hZ : kr_AO s) (hX : va_X b Ls xs s s.heap) (hbl : b < s.heap.size) (hbA : ¬ AA b) (hLs : Ls ≤ 260) (hr : meth.sig.returnType = some (.object "KnotRackLaw$Sim")) (hn0 : 2 ≤ n) (hn : n ≤ 14) (hw : kr_wf 0 0 A) (hx0 : kr_wx 0 0 A) (hJ : va_P D vwCl (kr_JW cy cz h a g ad 0 0 A) H) (hD : va_D AA (kr_JW cy cz h a g ad 0 0 A)) (hS : va_S AA s.heap H locs) (hl : lv_has ls 9 [(0, .ref h), (1, .ref b), (2, .ref g), (3, .int (nI n)), (4, .int (nI 0))]) (hc1 : cells ≤ 4) (hc2 : slots ≤ 3) : W p l e ({ frames := 10, cells := 80, slots := 620, locals := 300 } : Room) s m #[Value.ref h, Value.ref b] below meth c H locs cells slots (MQ below (kr_BQ D cy h a AA) #[Value.ref h, Value.ref b] s 80 620 AA) (F0 m 24 ls []) := by
  refine W.widen (k := 4 + 2 * 0) (n := 3 + 22 * 0) (by omega) (by omega) ?_
  refine kr_lpC (nL := 9) (fun z : Nat × (Nat → Nat → Nat) × (Nat → Nat → Int32) => [(0, .ref h), (1, .ref b), (2, .ref g), (3, .int (nI n)), (4, .int (nI z.1))]) (fun z H locs => (z.1 ≤ n ∧ kr_wf z.1 0 z.2.2 ∧ kr_wx z.1 0 z.2.2) ∧ va_P D vwCl (kr_JW cy cz h a g z.2.1 z.1 0 z.2.2) H ∧ va_D AA (kr_JW cy cz h a g z.2.1 z.1 0 z.2.2) ∧ va_S AA s.heap H locs) (fun z => n - z.1) (fun z => 4 + 2 * z.1) (fun z => 3 + 22 * z.1) ?_ (0, ad, A) ⟨⟨Nat.zero_le _, hw, hx0⟩, hJ, hD, hS⟩ hl
  clear hl hJ hD hS hw hx0
  intro z H locs ls hI hl ih
  obtain ⟨k, ad, A⟩ := z
  obtain ⟨⟨hkn, hw, hx0⟩, hJ, hD, hS⟩ : (k ≤ n ∧ kr_wf k 0 A ∧ kr_wx k 0 A) ∧ va_P D vwCl (kr_JW cy cz h a g ad k 0 A) H ∧ va_D AA (kr_JW cy cz h a g ad k 0 A) ∧ va_S AA s.heap H locs := hI
  have hl : lv_has ls 9 [(0, .ref h), (1, .ref b), (2, .ref g), (3, .int (nI n)), (4, .int (nI k))] := hl
  show W p l e ({ frames := 10, cells := 80, slots := 620, locals := 300 } : Room) s m #[Value.ref h, Value.ref b] below meth c  H locs (4 + 2 * k) (3 + 22 * k) (MQ below (kr_BQ D cy h a AA) #[Value.ref h, Value.ref b] s 80 620 AA) (F0 m 24 ls [])
  refine lv_iload hx hb dL_build_24 (lv_at hl 4 rfl) ?_
  refine lv_iload_n hx hb dL_build_26 rfl (lv_at hl 3 rfl) ?_
  refine lv_icmp_ge (tgt := 239) hx hb dL_build_27 (by decide) (fun c27 => ?_) (fun c27 => ?_)
  · have hk9 : k = n := by have := kr_ge (a := k) (b := n) (by omega) (by omega) c27; omega
    subst hk9
    refine lv_iconst (v := 0) hx hb dL_build_239 (by decide) ?_
    refine lv_istore (lv' := [(4, .int 0), (0, .ref h), (1, .ref b), (2, .ref g), (3, .int (nI k))]) hx hb dL_build_240 hl (by decide) rfl (fun ls hl => ?_)
    exact bld_lines (Q := fun _ => True) (k := 0) (q := 0) (pl := 0) (x := 0) hx hb hml hts hown hlocks hA hK hZ hX hbl hbA hLs hr hn0 hn hw hx0 hJ hD hS (lv_sub hl [1, 2, 3, 4, 0] rfl) (by omega) (by omega)
  · have hk : k < n := kr_lt (a := k) (b := n) (by omega) (by omega) c27
    refine bld_knot (q := 0) (pl := 0) (x := 0) hx hb hml hts hown hlocks hA hK hZ hX hbl hbA hLs hk hn hw hx0 hJ hD hS (lv_sub hl [0, 1, 2, 3, 4] rfl) (by omega) (by omega) (fun ad A H locs ls hw hx0 hJ hD hS hl => ?_)
    refine lv_iinc (v := nI (k + 1)) (lv' := [(4, .int (nI (k + 1))), (0, .ref h), (1, .ref b), (2, .ref g), (3, .int (nI n))]) hx hb dL_build_233 hl (k := 4) rfl (kr_inc _) (by decide) rfl (fun ls hl => ?_)
    refine lv_goto (tgt := 24) hx hb dL_build_236 (by decide) ?_
    refine W.widen (k := 4 + 2 * (k + 1)) (n := 3 + 22 * (k + 1)) (by omega) (by omega) ?_
    exact ih (k + 1, ad, A) _ _ ls ⟨⟨show k + 1 ≤ n by omega, hw, hx0⟩, hJ, hD, hS⟩ (by show n - (k + 1) < n - k; omega) (lv_sub hl [1, 2, 3, 4, 0] rfl)
theorem kr_wf00 : kr_wf 0 0 (fun _ _ => 0) := ⟨Nat.zero_le _, Nat.zero_le _, fun k hk => absurd hk (Nat.not_lt_zero _), fun k hk => absurd hk (Nat.not_lt_zero _)⟩
theorem kr_wx00 : kr_wx 0 0 (fun _ _ => 0) := ⟨fun w => absurd w (Nat.lt_irrefl 0), fun w => absurd w (by decide), fun k hk => absurd hk (Nat.not_lt_zero _), fun k hk => absurd hk (Nat.not_lt_zero _)⟩
set_option maxHeartbeats 4000000 in
set_option maxRecDepth 100000 in
theorem c_L_build (l : Launch) (D : va_G) (cy : ClassId) (h : Nat) (a : Nat → Nat) (sz b Ls : Nat) (xs : Nat → Int32) (hLs : Ls ≤ 260) (hbA : ¬ va_A (kr_W0 cy h a 0 0 (fun _ _ => 0)) sz b) : Met l yL_build (Cond.code yL_build cL_build 9 (some (.object "KnotRackLaw$Sim")) :: kr_all) ({ frames := 10, cells := 80, slots := 620, locals := 300 } : Room) (va_Pc [.ref h, .ref b] (kr_Bw D (kr_W0 cy h a 0 0 (fun _ _ => 0)) cy sz b Ls xs)) (kr_BQ D cy h a (va_A (kr_W0 cy h a 0 0 (fun _ _ => 0)) sz)) 80 620 (va_A (kr_W0 cy h a 0 0 (fun _ _ => 0)) sz) := by
  refine Met.ofW (cc := cL_build) (maxL := 9) (ret := some (.object "KnotRackLaw$Sim")) (by decide) rfl ?_
  intro p e s m args below meth c s₁ B hml hv
  obtain ⟨rfl, hsz, hP, hK, hD0, hZ, hNw, hX, hbl⟩ := hv
  subst hsz
  have hts0 := atoms_spec (ws := Cond.code yL_build cL_build 9 (some (.object "KnotRackLaw$Sim")) :: kr_all) B.pre
  have hl := lv_entry [.ref h, .ref b] (n := 9) (Nat.le_of_ble_eq_true rfl)
  rw [lg_entry_eq]
  have hx := B.exec
  have hb := B.bytes
  have hr := B.returns
  have hts : ∀ w ∈ kr_all, w.before #[Value.ref h, Value.ref b] s = true := fun w h9 => hts0 w (List.mem_cons_of_mem _ h9)
  have hown : s.vm.findClass RL = some m.cls := findClass_of_methodNamed B.named
  have hlocks := B.notSynchronized
  have hD := hD0.self (sz := s.heap.size)
  generalize hAe : va_A (kr_W0 cy h a 0 0 (fun _ _ => 0)) s.heap.size = AA at hD hbA ⊢
  have hA : ∀ q : Nat, s.heap.size ≤ q → AA q := fun q h9 => by rw [← hAe]; exact Or.inr h9
  have hS : va_S AA s.heap s.heap [] := va_S.rf
  generalize (lg_sl [.ref h, .ref b] ++ List.replicate (9 - (lg_sl [.ref h, .ref b]).length) Slot.unset).toArray = ls at hl ⊢
  have hl : lv_has ls 9 [(0, .ref h), (1, .ref b)] := hl
  show W p l e ({ frames := 10, cells := 80, slots := 620, locals := 300 } : Room) s m #[Value.ref h, Value.ref b] below meth c s.heap [] 0 0 (MQ below (kr_BQ D cy h a AA) #[Value.ref h, Value.ref b] s 80 620 AA) (F0 m 0 ls [])
  refine va_new (ci := 1) (fs := [.null, .null, .null]) (C := RX1) (T := TX1) (N := 3) hx hb hts kr_wsX1 tyX1 tyX1_ok hown (hts _ kq_506) (hts _ kq_435) (hts _ kq_26) hK hP hD hS hA rfl (fun j hj => by rcases (show j = 0 ∨ j = 1 ∨ j = 2 by omega) with rfl | rfl | rfl <;> rfl) (Nat.le_of_ble_eq_true rfl) (Nat.le_of_ble_eq_true rfl) dL_build_0 (fun q1 H hP hD hS => ?_)
  have hP : va_P D vwCl ([(q1, .inr (1, [.null, .null, .null]))] ++ kr_W0 cy h a 0 0 (fun _ _ => 0)) H := kr_Pc hP
  have hD : va_D AA ([(q1, .inr (1, [.null, .null, .null]))] ++ kr_W0 cy h a 0 0 (fun _ _ => 0)) := kr_Dc hD
  refine lv_dup hx hb dL_build_3 rfl ?_
  have hP1 : va_P D vwCl [(q1, .inr (1, [.null, .null, .null]))] H := kr_Pl hP
  have hD1 : va_D AA [(q1, .inr (1, [.null, .null, .null]))] := kr_Dl hD
  refine kr_qV (V := ClassId × (Nat → Nat → Nat)) (w1 := fun u => kr_SW cy u.1 q1 u.2 0 0 (fun _ _ => 0)) (wc := [(q1, .inr (1, [.null, .null, .null]))]) (wr := kr_W0 cy h a 0 0 (fun _ _ => 0)) (va_runIN (n := 0) (mc := 3) (ms := 0) (As := []) (rest := [.ref q1]) ⟨hx, hb, hml, hown, hts⟩ (c_X1_init l D cy q1 H.size) ⟨va_cnB 0 hts (kr_gC kq_509) rfl rfl rfl hNw (hts _ kq_26) (by decide +kernel) ⟨Nat.le_of_ble_eq_true rfl, Nat.le_of_ble_eq_true rfl⟩, rfl, hts _ kq_508⟩ ⟨kr_blI, fun U hU hW => ⟨rfl, by rw [hU], by rw [hU]; exact hP1, va_K.moved hW.alike hK, kr_Dt hD1, hZ.moved hW.alike⟩⟩ rfl rfl hl.1 rfl (lv_room (Nat.le_of_ble_eq_true rfl)) dL_build_4 ⟨Nat.le_of_ble_eq_true rfl, Nat.le_of_ble_eq_true rfl⟩) (fun _ t h9 => ⟨h9.1, h9.2.2⟩) hP hD hS hA (fun u t H locs ht hvm hB _ hP hD hS => ?_)
  obtain ⟨cz, ad⟩ := u
  have hK2 : va_K D vwCl [(cy, .int), (cz, .array .int)] s := va_K.moved hvm.symm hB.2.1
  clear hB ht hvm hP1 hD1 hK
  have hJ : va_P D vwCl (kr_JW cy cz h a q1 ad 0 0 (fun _ _ => 0)) H := kr_Pc hP
  have hD : va_D AA (kr_JW cy cz h a q1 ad 0 0 (fun _ _ => 0)) := kr_Dc hD
  refine W.widen (k := 4) (n := 3) (Nat.le_of_ble_eq_true rfl) (Nat.le_of_ble_eq_true rfl) ?_
  refine lv_astore_n (lv' := [(2, .ref q1), (0, .ref h), (1, .ref b)]) hx hb dL_build_7 rfl hl (by decide) rfl (fun ls hl => ?_)
  refine lv_iconst (v := 3) hx hb dL_build_8 (by decide) ?_
  refine lv_aload_n hx hb dL_build_9 rfl (lv_at hl 2 rfl) ?_
  refine lv_iconst (v := 0) hx hb dL_build_10 (by decide) ?_
  refine kr_sI (n := 2) (As := [.ref b, .int (nI 0)]) (rest := [.int 3]) ⟨hx, hb, hml, hown, hts⟩ (c_L_cell l b Ls xs 0 (by omega) hLs) kg_RL_65 ⟨rfl, rfl⟩ (by decide +kernel) ⟨Nat.le_of_ble_eq_true rfl, Nat.le_of_ble_eq_true rfl⟩ (kr_psX hX hbl hbA hS) rfl hl.1 rfl (Nat.le_of_ble_eq_true rfl) dL_build_11 ⟨show 4 + 0 ≤ 80 by omega, show 3 + 0 ≤ 620 by omega⟩ (fun x9 _ => ?_)
  refine lv_bipush (v := 12) hx hb dL_build_14 (by decide) ?_
  refine kr_sI (n := 2) (As := [.int x9, .int 12]) (rest := [.int 3]) ⟨hx, hb, hml, hown, hts⟩ (c_L_below l x9 12 (by omega) (by omega)) kg_RL_18 ⟨rfl, rfl⟩ (by decide +kernel) ⟨Nat.le_of_ble_eq_true rfl, Nat.le_of_ble_eq_true rfl⟩ ⟨kr_blT, fun U hU hW => ⟨rfl, trivial⟩⟩ rfl hl.1 rfl (Nat.le_of_ble_eq_true rfl) dL_build_16 ⟨show 4 + 0 ≤ 80 by omega, show 3 + 0 ≤ 620 by omega⟩ (fun r9 e9 => ?_)
  obtain ⟨j, hj, rfl⟩ := e9
  refine kr_iaddN hx hb 3 j dL_build_19 ?_
  obtain ⟨n, hn9⟩ : ∃ z, z = 3 + j := ⟨_, rfl⟩
  rw [← hn9]
  refine lv_istore_n (lv' := [(3, .int (nI n)), (2, .ref q1), (0, .ref h), (1, .ref b)]) hx hb dL_build_20 rfl hl (by decide) rfl (fun ls hl => ?_)
  refine lv_iconst (v := 0) hx hb dL_build_21 (by decide) ?_
  refine lv_istore (lv' := [(4, .int 0), (3, .int (nI n)), (2, .ref q1), (0, .ref h), (1, .ref b)]) hx hb dL_build_22 hl (by decide) rfl (fun ls hl => ?_)
  exact bld_knots (Q := fun _ => True) (k := 0) (q := 0) (pl := 0) (x := 0) hx hb hml hts hown hlocks hA hK2 hZ hX hbl hbA hLs hr (by omega) (by omega) kr_wf00 kr_wx00 hJ hD hS (lv_sub hl [3, 4, 2, 1, 0] rfl) (by omega) (by omega)
