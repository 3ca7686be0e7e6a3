/-! the law's own methods: what they are said in, the calls of them, what is caught -/
abbrev kr_JW (cy cz : ClassId) (h : Nat) (a : Nat → Nat) (g : Nat) (ad : Nat → Nat → Nat) (N L : Nat) (A : Nat → Nat → Int32) : va_W := kr_W0 cy h a N L A ++ kr_SW cy cz g ad N L A
abbrev kr_AV : Type := Nat × Nat × (Nat → Nat → Int32) × (Nat → Nat → Nat)
abbrev kr_JU (cy cz : ClassId) (h : Nat) (a : Nat → Nat) (g : Nat) (u : kr_AV) : va_W := kr_JW cy cz h a g u.2.2.2 u.1 u.2.1 u.2.2.1
def kr_Aok (u : kr_AV) : Prop := kr_wf u.1 u.2.1 u.2.2.1 ∧ kr_wx u.1 u.2.1 u.2.2.1 ∧ 2 ≤ u.1 ∧ 1 ≤ u.2.1
abbrev kr_AQ (D : va_G) (cy cz : ClassId) (h : Nat) (a : Nat → Nat) (g : Nat) (AA : Nat → Prop) : Array Value → State → Outcome → State → Prop := va_Qi (fun r (u : kr_AV) => r = 1 ∧ kr_Aok u) (fun u t => va_P D vwCl (kr_JU cy cz h a g u) t.heap ∧ va_D AA (kr_JU cy cz h a g u)) AA
def kr_hh : List (Nat × Nat × Nat × Nat) := [(91, 259, 842, 62), (260, 265, 842, 62), (266, 366, 842, 62), (367, 384, 842, 62), (385, 473, 842, 62), (474, 500, 842, 62), (501, 627, 842, 62), (628, 648, 842, 62), (649, 691, 842, 62), (692, 736, 842, 62), (737, 746, 842, 62), (747, 841, 842, 62)]
/-- a remainder by a small number -/
theorem kr_below (x : Int32) {n : Nat} (h0 : 0 < n) (hn : n < 2 ^ 31) : ∃ j, j < n ∧ (x &&& 2147483647) - (x &&& 2147483647) / nI n * nI n = nI j := by
  have e := pk_and x (m := 2147483647) 31 (by decide)
  rw [e]
  have hl : x.toBitVec.toNat % 2 ^ 31 < 2 ^ 31 := Nat.mod_lt _ (by decide)
  exact ⟨_, Nat.mod_lt _ h0, pk_rem hl h0 hn⟩
set_option maxHeartbeats 4000000 in
set_option maxRecDepth 100000 in
theorem c_L_below (l : Launch) (x : Int32) (n : Nat) (h0 : 0 < n) (hn : n < 2 ^ 31) : Met l yL_below (Cond.code yL_below cL_below 2 (some .int) :: kr_all) ({ frames := 0, cells := 0, slots := 0, locals := 0 }) (va_Pc [.int x, .int (nI n)] (fun _ => True)) (vp_Si (fun r => ∃ j, j < n ∧ r = nI j)) 0 0 (fun _ => False) := by
  refine kr_of (by decide) (Nat.le_of_ble_eq_true rfl) ?_
  intro p e s m below meth c ls hx hb hml hr hts hown hlocks hin hv hl
  have hown : s.vm.findClass RL = some m.cls := hown
  have hl : lv_has ls 2 [(0, .int x), (1, .int (nI n))] := hl
  refine lv_iload_n hx hb dL_below_0 rfl (lv_at hl 0 rfl) ?_
  refine lv_ldc (v := 2147483647) hx hb hown (hts _ kq_456) dL_below_1 ?_
  refine lv_iand hx hb dL_below_3 ?_
  refine lv_iload_n hx hb dL_below_4 rfl (lv_at hl 1 rfl) ?_
  refine lv_irem hx hb dL_below_5 (nI_ne0 h0 hn) ?_
  obtain ⟨j, hj, e9⟩ := kr_below x h0 hn
  exact kr_eI hx hb hr hlocks rfl ⟨j, hj, e9⟩ dL_below_6
/-- the script, at a cell that is no world's -/
def kr_Xs (b Ls : Nat) (xs : Nat → Int32) (U : State) : Prop := va_X b Ls xs U U.heap ∧ b < U.heap.size
theorem kr_blx {b Ls : Nat} {xs : Nat → Int32} {av : List Value} : FrameBlind (va_Pc av (kr_Xs b Ls xs)) := fun a U g mk q => ⟨q.1, va_X.moved (u := U) (U := U.calling g mk a) (Vm.Alike.refl U.vm) q.2.1, q.2.2⟩
theorem kr_psX {b Ls : Nat} {xs : Nat → Int32} {As : List Value} {H : Heap} {s : State} {AA : Nat → Prop} {H0 : Heap} {locs : List Loc} (hX : va_X b Ls xs s H0) (hbl : b < H0.size) (hbA : ¬ AA b) (hS : va_S AA H0 H locs) : PreS s H (va_Pc As (kr_Xs b Ls xs)) As := ⟨kr_blx, fun U hU hW => ⟨rfl, by rw [hU]; exact (hX.kept (hS.2.1 b hbl hbA)).moved hW.alike, by rw [hU]; exact Nat.lt_of_lt_of_le hbl hS.1⟩⟩
set_option maxHeartbeats 4000000 in
set_option maxRecDepth 100000 in
theorem c_L_cell (l : Launch) (b Ls : Nat) (xs : Nat → Int32) (k : Nat) (hk : k < 2 ^ 31) (hL : Ls ≤ 260) : Met l yL_cell (Cond.code yL_cell cL_cell 2 (some .int) :: kr_all) ({ frames := 0, cells := 0, slots := 0, locals := 0 }) (va_Pc [.ref b, .int (nI k)] (kr_Xs b Ls xs)) (vp_Si (fun _ => True)) 0 0 (fun _ => False) := by
  refine kr_of (by decide) (Nat.le_of_ble_eq_true rfl) ?_
  intro p e s m below meth c ls hx hb hml hr hts hown hlocks hin hv hl
  have hown : s.vm.findClass RL = some m.cls := hown
  have hl : lv_has ls 2 [(0, .ref b), (1, .int (nI k))] := hl
  obtain ⟨hX, hbl⟩ := hv
  have hS : va_S (fun _ => False) s.heap s.heap [] := va_S.rf
  refine lv_iload_n hx hb dL_cell_0 rfl (lv_at hl 1 rfl) ?_
  refine lv_aload_n hx hb dL_cell_1 rfl (lv_at hl 0 rfl) ?_
  refine va_slen hx hb hX hbl id hS dL_cell_2 ?_
  refine lv_icmp_ge (tgt := 12) hx hb dL_cell_3 (by decide) (fun c3 => ?_) (fun c3 => ?_)
  · refine lv_ldc (v := 790386105) hx hb hown (hts _ kq_460) dL_cell_12 ?_
    refine lv_iload_n hx hb dL_cell_14 rfl (lv_at hl 1 rfl) ?_
    refine lv_iconst (v := 3) hx hb dL_cell_15 (by decide) ?_
    refine lv_iadd hx hb dL_cell_16 ?_
    refine lv_imul hx hb dL_cell_17 ?_
    exact kr_eI hx hb hr hlocks rfl trivial dL_cell_18
  · have hi : k < Ls := kr_lt (by omega) (by omega) c3
    refine lv_aload_n hx hb dL_cell_6 rfl (lv_at hl 0 rfl) ?_
    refine lv_iload_n hx hb dL_cell_7 rfl (lv_at hl 1 rfl) ?_
    refine va_sld hx hb hX hbl id hS (vp_in_nI hi (by omega)) dL_cell_8 ?_
    refine lv_goto (tgt := 18) hx hb dL_cell_9 (by decide) ?_
    exact kr_eI hx hb hr hlocks rfl trivial dL_cell_18
section KRLA
variable {p : Program} {l : Launch} {e : Env} {R : Room} {s : State} {m : MethodId} {args : Array Value} {below : List Frame} {meth : Method} {c : Code} {H : Heap} {locs : List Loc} {cells slots : Nat} {Q : State → Prop} {cc : ByteArray} {pc : Nat} {ls : Array Slot} {rest st0 : List Value} {D : va_G} {wr : va_W} {cy cz : ClassId} {AA BB : Nat → Prop} {H0 : Heap} {h g N L : Nat} {a : Nat → Nat} {ad : Nat → Nat → Nat} {A : Nat → Nat → Int32}
/-- a call of the class that writes, beside other cells -/
theorem kr_jwI {own : String} {idx maxL nL n N2 L2 : Nat} {A2 : Nat → Nat → Int32} {y : MethodName} {bytes : ByteArray} {ret : Option FieldType} {rm : Room} {As : List Value} {post : Int32 → Prop} (S : CallFix p m c cc nL s args kr_all own) (hM : Met l y (Cond.code y bytes maxL ret :: kr_all) rm (va_Pc (.ref h :: As) (kr_Rw D (kr_W0 cy h a N L A) cy H.size)) (va_Qi (fun r (_ : Unit) => post r) (fun _ t => kr_Rq D (kr_W0 cy h a N2 L2 A2) cy (va_A (kr_W0 cy h a N L A) H.size) t) (va_A (kr_W0 cy h a N L A) H.size)) 0 0 (va_A (kr_W0 cy h a N L A) H.size)) (gd : GoodIn kr_all (wsV own idx RX0 y (Cond.code y bytes maxL ret :: kr_all))) (hr0 : rm.cells = 0 ∧ rm.slots = 0)
    (hd : y.cls = RX0 ∧ y.cls ≠ "java/lang/invoke/MethodHandle" ∧ y.cls ≠ "java/lang/invoke/VarHandle" ∧ (parseMethodDescriptor y.desc).map (fun d => d.parameters.length) = some n) (hR : rm.frames + 1 ≤ R.frames ∧ 8 + (maxL + 11) + rm.locals ≤ R.locals) (hP : va_P D vwCl (kr_W0 cy h a N L A ++ wr) H) (hK : va_K D vwCl [(cy, .int), (cz, .array .int)] s) (hD : va_D AA (kr_W0 cy h a N L A ++ wr)) (hS : va_S AA H0 H locs) (hA : ∀ q : Nat, H0.size ≤ q → AA q) (hn : As.length = n) (hsize : ls.size = nL) (hst : st0 = As.reverse ++ .ref h :: rest) (hW : (rest.map fun v => v.category).sum ≤ 8) (hdg : decode cc pc = .ok (.invokevirtual idx, 3)) (hf : cells + 0 ≤ R.cells ∧ slots + 0 ≤ R.slots)
    (kk : ∀ (r : Int32) (H1 : Heap) (locs1 : List Loc), post r → va_P D vwCl (kr_W0 cy h a N2 L2 A2 ++ wr) H1 → va_D AA (kr_W0 cy h a N2 L2 A2 ++ wr) → va_S AA H0 H1 locs1 → W p l e R s m args below meth c H1 locs1 cells slots Q (F0 m (pc + 3) ls (.int r :: rest))) : W p l e R s m args below meth c H locs cells slots Q (F0 m pc ls st0) := by
  have hP0 := kr_Pl hP
  have hD0 := kr_Dl hD
  have hK0 : va_K D vwCl [(cy, .int)] s := hK.sub [0] rfl
  exact kr_qI (V := Unit) (w1 := fun _ => kr_W0 cy h a N2 L2 A2) (va_runV S hM (cwV n S.2.2.2.2 gd rfl hr0.1 hr0.2 hd hR) ⟨kr_blw, va_recv hK0 hP0 (ci := 0) (q0 := 0) rfl rfl, fun U hU hW => ⟨rfl, by rw [hU], by rw [hU]; exact hP0, va_K.moved hW.alike hK0, kr_Dt hD0⟩⟩ rfl hn hsize hst (lv_room (pc := pc) (ls := ls) (m := m) (rest := st0) hW) hdg hf) (fun _ t h9 => ⟨h9.1, h9.2.2⟩) hP hD hS hA (fun r _ H1 locs1 => kk r H1 locs1)
/-- a pull by hand, beside the class's cells -/
theorem kr_jwP {own : String} {idx maxL nL n mc ms : Nat} {N2 L2 : Nat} {A2 : Nat → Nat → Int32} {y : MethodName} {bytes : ByteArray} {ret : Option FieldType} {rm : Room} {As : List Value} {post : Prop} {w : va_W} (S : CallFix p m c cc nL s args kr_all own) (hM : Met l y (Cond.code y bytes maxL ret :: kr_all) rm (va_Pc (.ref g :: As) (kr_Sw D (kr_SW cy cz g ad N L A) cy cz H.size)) (va_Qv (fun (_ : Nat → Nat → Nat) => post) (fun ad' t => va_P D vwCl (kr_SW cy cz g ad' N2 L2 A2) t.heap ∧ va_D (va_A (kr_SW cy cz g ad N L A) H.size) (kr_SW cy cz g ad' N2 L2 A2)) (va_A (kr_SW cy cz g ad N L A) H.size)) mc ms (va_A (kr_SW cy cz g ad N L A) H.size)) (gd : GoodIn kr_all (wsV own idx RX1 y (Cond.code y bytes maxL ret :: kr_all))) (hr0 : rm.cells = mc ∧ rm.slots = ms)
    (hd : y.cls = RX1 ∧ y.cls ≠ "java/lang/invoke/MethodHandle" ∧ y.cls ≠ "java/lang/invoke/VarHandle" ∧ (parseMethodDescriptor y.desc).map (fun d => d.parameters.length) = some n) (hR : rm.frames + 1 ≤ R.frames ∧ 8 + (maxL + 11) + rm.locals ≤ R.locals) (hP : va_P D vwCl (w ++ kr_SW cy cz g ad N L A) H) (hK : va_K D vwCl [(cy, .int), (cz, .array .int)] s) (hD : va_D AA (w ++ kr_SW cy cz g ad N L A)) (hZ : kr_AO s) (hS : va_S AA H0 H locs) (hA : ∀ q : Nat, H0.size ≤ q → AA q) (hn : As.length = n) (hsize : ls.size = nL) (hst : st0 = As.reverse ++ .ref g :: rest) (hW : (rest.map fun v => v.category).sum ≤ 8) (hdg : decode cc pc = .ok (.invokevirtual idx, 3)) (hf : cells + mc ≤ R.cells ∧ slots + ms ≤ R.slots)
    (kk : ∀ (ad' : Nat → Nat → Nat) (H1 : Heap) (locs1 : List Loc), post → va_P D vwCl (w ++ kr_SW cy cz g ad' N2 L2 A2) H1 → va_D AA (w ++ kr_SW cy cz g ad' N2 L2 A2) → va_S AA H0 H1 locs1 → W p l e R s m args below meth c H1 locs1 (cells + mc) (slots + ms) Q (F0 m (pc + 3) ls rest)) : W p l e R s m args below meth c H locs cells slots Q (F0 m pc ls st0) := by
  have hP0 : va_P D vwCl (kr_SW cy cz g ad N L A) H := kr_Pr hP
  have hD0 : va_D AA (kr_SW cy cz g ad N L A) := kr_Dr hD
  exact kr_qV (V := Nat → Nat → Nat) (w1 := fun ad' => kr_SW cy cz g ad' N2 L2 A2) (wr := w) (va_runV S hM (cwV n S.2.2.2.2 gd rfl hr0.1 hr0.2 hd hR) ⟨fun a U g mk q => ⟨q.1, q.2.1, q.2.2.1, va_K.moved (u := U) (U := U.calling g mk a) (Vm.Alike.refl U.vm) q.2.2.2.1, q.2.2.2.2.1, q.2.2.2.2.2.calling g mk a⟩, va_recv hK hP0 (ci := 1) (q0 := 0) rfl rfl, fun U hU hW => ⟨rfl, by rw [hU], by rw [hU]; exact hP0, va_K.moved hW.alike hK, kr_Dt hD0, hZ.moved hW.alike⟩⟩ rfl hn hsize hst (lv_room (pc := pc) (ls := ls) (m := m) (rest := st0) hW) hdg hf) (fun _ t h9 => h9) (kr_Pc hP) (kr_Dc hD) hS hA (fun ad' t H1 locs1 _ _ _ h1 h2 h3 h4 => kk ad' H1 locs1 h1 (kr_Pc h2) (kr_Dc h3) h4)
/-- a call that throws, caught -/
theorem kr_ax {idx maxL nL n : Nat} {y : MethodName} {bytes : ByteArray} {ret : Option FieldType} {rm : Room} {As : List Value} (S : CallFix p m c cc nL s args kr_all RL) (hM : vx_Met l y (Cond.code y bytes maxL ret :: kr_all) rm (va_Pc (.ref h :: As) (kr_RT D (kr_W0 cy h a N L A) cy)) kr_no (kr_XC "java/lang/IllegalStateException") 1 6 (fun _ => False)) (gd : GoodIn kr_all (wsV RL idx RX0 y (Cond.code y bytes maxL ret :: kr_all))) (hr0 : rm.cells = 1 ∧ rm.slots = 6)
    (hd : y.cls = RX0 ∧ y.cls ≠ "java/lang/invoke/MethodHandle" ∧ y.cls ≠ "java/lang/invoke/VarHandle" ∧ (parseMethodDescriptor y.desc).map (fun d => d.parameters.length) = some n) (hR : rm.frames + 1 ≤ R.frames ∧ 8 + (maxL + 11) + rm.locals ≤ R.locals) (hP : va_P D vwCl (kr_W0 cy h a N L A) H) (hK : va_K D vwCl [(cy, .int), (cz, .array .int)] s) (hT : kr_T s) (hk : ∀ q : Nat, q < s.heap.size → H[q]? = s.heap[q]?) (hn : As.length = n) (hsize : ls.size = nL) (hst : st0 = As.reverse ++ .ref h :: rest) (hW : (rest.map fun v => v.category).sum ≤ 8) (hdg : decode cc pc = .ok (.invokevirtual idx, 3)) (hf : cells + 1 ≤ R.cells ∧ slots + 6 ≤ R.slots)
    (htab : c.exceptionTable.toList = tableOf kr_hh) (pre : List ExceptionTableEntry) (x : ExceptionTableEntry) (suf : List ExceptionTableEntry) (hsplit : tableOf kr_hh = pre ++ x :: suf) (hpass : ∀ z ∈ pre, covers z pc = false) (hcv : covers x pc = true) (hct : x.catchType = 62) (hpcH : x.handlerPc = 842)
    (kk : ∀ (q : Nat) (H1 : Heap), H.size ≤ H1.size → (∀ b : Nat, b < H.size → H1[b]? = H[b]?) → W p l e R s m args below meth c H1 locs (cells + 1) (slots + 6) Q (F0 m 842 ls [.ref q])) : W p l e R s m args below meth c H locs cells slots Q (F0 m pc ls st0) := by
  have hK0 : va_K D vwCl [(cy, .int)] s := hK.sub [0] rfl
  have hr : vx_Run p l e R s m args below meth c H locs cells slots 1 6 (F0 m pc ls st0) rest (fun _ _ _ => False) (kr_XC "java/lang/IllegalStateException") (fun _ => False) := vx_runV S hM (cwV n S.2.2.2.2 gd rfl hr0.1 hr0.2 hd hR) (kr_pvx hP hK0 hT hk) rfl hn hsize hst (lv_room (pc := pc) (ls := ls) (m := m) (rest := st0) hW) hdg hf
  obtain ⟨z1, z2, d1, d2, d3w, k1, k2, k3, htt⟩ := hT
  intro T hT X
  rcases hr T hT X with ⟨v, st₀, t, T', L, h0', X', hL, e1, e2, hq, st⟩ | ⟨q, st₀, t, T', L, E', ce, h0', X', hL, e1, e2, ⟨u, hu, hE, hF⟩, hce, hcv2, hcl, st⟩
  · exact hq.elim
  · have hE' : E' = "java/lang/IllegalStateException" := hE
    subst hE'
    have hL0 : L = [] := by
      cases L with
      | nil => rfl
      | cons z zs => exact (hL z List.mem_cons_self).elim
    subst hL0
    rw [List.append_nil] at X'
    have k : vx_W p l e R s m args below meth c T'.heap locs (cells + 1) (slots + 6) Q (F0 m pc ls rest) q :=
      vx_catch S.2.2.2.1 pre x suf (htab.trans hsplit) (fun z hz => Or.inl (hpass z hz)) hcv (by rw [hct]; decide) (by rw [hct]; exact S.2.2.2.2 _ kq_464) (va_Nw.use rfl k3) (by rw [e1]; exact hce) hcv2 hcl (by rw [hpcH]; exact kk q T'.heap (by rw [e1, ← h0']; exact hF.1) (fun b hb => by rw [e1, hF.2 b (by rw [h0']; exact hb) id, h0']))
    obtain ⟨t2, a1, b1⟩ := k T' rfl X'
    exact ⟨t2, st.trans a1, b1⟩
/-- the end of act -/
theorem kr_aE (u : kr_AV) (hx : p.tables.exec = Jvm.exec) (hb : c.code = cc) (hr : meth.sig.returnType = some .boolean) (hlocks : meth.locks = false) (hP : va_P D vwCl (kr_JU cy cz h a g u) H) (hD : va_D AA (kr_JU cy cz h a g u)) (hS : va_S AA s.heap H locs) (hok : kr_Aok u) (hdg : decode cc pc = .ok (.ireturn, 1)) : W p l e R s m args below meth c H locs cells slots (MQ below (kr_AQ D cy cz h a g AA) args s cells slots AA) (F0 m pc ls [.int 1]) := W.zret (ty := .boolean) hx hb hr (by decide) (fun t ht hW => ⟨⟨1, u, rfl, ⟨rfl, hok⟩, by rw [ht]; exact hP, hD⟩, hS.F ht⟩) hS.2.2 hdg hlocks
end KRLA
