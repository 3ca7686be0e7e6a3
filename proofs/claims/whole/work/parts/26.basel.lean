/-! the law's helpers: a call that is caught -/
def kr_Lw (D : va_G) (ws : va_W) (cy cl : ClassId) (sz : Nat) (U : State) : Prop := U.heap.size = sz ∧ va_P D vwCl ws U.heap ∧ va_K D vwCl [(cy, .int), (cl, .long)] U ∧ va_D (fun _ => True) ws ∧ kr_T U
def kr_Lq (D : va_G) (ws : va_W) (cy cl : ClassId) (AA : Nat → Prop) (t : State) : Prop := va_P D vwCl ws t.heap ∧ va_K D vwCl [(cy, .int), (cl, .long)] t ∧ va_D AA ws
abbrev kr_WL (cy cl : ClassId) (h : Nat) (a : Nat → Nat) (o N L : Nat) (A : Nat → Nat → Int32) (O : Nat → Int64) : va_W := kr_W0 cy h a N L A ++ [(o, .inl (cl, 1, .inr (.inl O)))]
theorem kr_blL {D : va_G} {ws : va_W} {cy cl : ClassId} {sz : Nat} {av : List Value} : FrameBlind (va_Pc av (kr_Lw D ws cy cl sz)) := fun a U g mk q => ⟨q.1, q.2.1, q.2.2.1, va_K.moved (u := U) (U := U.calling g mk a) (Vm.Alike.refl U.vm) q.2.2.2.1, q.2.2.2.2.1, q.2.2.2.2.2.calling g mk a⟩
theorem kr_gW {own : String} {idx n : Nat} {y : MethodName} {b : ByteArray} {r : Option FieldType} {hh : List (Nat × Nat × Nat × Nat)} (h1 : Cond.methodLink own idx y ∈ kr_all) (h2 : Cond.static y ∈ kr_all) (h4 : Cond.initialized y.cls ∈ kr_all) (h5 : Cond.codeWith y b n r hh ∈ kr_all) : GoodIn kr_all (va_wsS own idx y (Cond.codeWith y b n r hh :: kr_all)) := by
  refine kr_good (fun w hw => ?_)
  unfold va_wsS at hw
  rcases List.mem_append.mp hw with h | h
  · simp only [List.mem_cons, List.not_mem_nil, or_false] at h
    rcases h with rfl | rfl | rfl
    · exact h1
    · exact h2
    · exact h4
  · rcases List.mem_cons.mp h with rfl | h
    · exact h5
    · exact h
theorem kr_ofL {l : Launch} {y : MethodName} {cc : ByteArray} {maxL : Nat} {ret : Option FieldType} {hh : List (Nat × Nat × Nat × Nat)} {rm : Room} {vs : List Value} {D : va_G} {ws : va_W} {cy cl : ClassId} {sz : Nat} {Qc : (Nat → Prop) → Array Value → State → Outcome → State → Prop} {mc ms : Nat} (hy : plainName y.cls = true) (hlen : (lg_sl vs).length ≤ maxL)
    (body : ∀ (p : Program) (e : Env) (s : State) (m : MethodId) (below : List Frame) (meth : Method) (c : Code) (ls : Array Slot) (AA : Nat → Prop), p.tables.exec = Jvm.exec → c.code = cc → c.maxLocals = maxL → meth.sig.returnType = ret → (∀ w ∈ kr_all, w.before vs.toArray s = true) → s.vm.findClass y.cls = some m.cls → meth.locks = false → c.exceptionTable.toList = tableOf hh → (∀ q : Nat, s.heap.size ≤ q → AA q) → va_P D vwCl ws s.heap → va_K D vwCl [(cy, .int), (cl, .long)] s → va_D AA ws → va_S AA s.heap s.heap [] → kr_T s → lv_has ls maxL (lv_args 0 vs) → W p l e rm s m vs.toArray below meth c s.heap [] 0 0 (MQ below (Qc AA) vs.toArray s mc ms AA) (F0 m 0 ls [])) :
    Met l y (Cond.codeWith y cc maxL ret hh :: kr_all) rm (va_Pc vs (kr_Lw D ws cy cl sz)) (Qc (va_A ws sz)) mc ms (va_A ws sz) := by
  refine va_MetW (cc := cc) (maxL := maxL) (ret := ret) (hh := hh) hy rfl ?_
  intro p e s m args below meth c s₁ B hml hv
  obtain ⟨rfl, hsz, hP, hK, hD0, hT⟩ := hv
  subst hsz
  have hts := atoms_spec (ws := Cond.codeWith y cc maxL ret hh :: kr_all) B.pre
  have hl := lv_entry vs (n := maxL) hlen
  rw [lg_entry_eq]
  exact body p e s m below meth c _ (va_A ws s.heap.size) B.exec B.bytes hml B.returns (fun w h => hts w (List.mem_cons_of_mem _ h)) (findClass_of_methodNamed B.named) B.notSynchronized (vx_table (x := y) B (hts _ List.mem_cons_self)) (fun q h => Or.inr h) hP hK (hD0.self (sz := s.heap.size)) va_S.rf hT hl
theorem kr_fmap {α β : Type} {f : β → Option α} : ∀ {is : List β} {w : List α}, is.map f = w.map some → is.filterMap f = w
  | [], [], _ => rfl
  | [], _ :: _, h => by cases h
  | _ :: _, [], h => by cases h
  | i :: is, x :: w, h => by
    rw [List.map_cons, List.map_cons] at h
    injection h with h1 h2
    rw [List.filterMap_cons, h1, kr_fmap h2]
theorem kr_uL (f : Nat → Int64) (x : Int64) : vp_updL f (0 : Int32).toNatClampNeg x 0 = x := if_pos (by decide)
section KRL
variable {p : Program} {l : Launch} {e : Env} {R : Room} {s : State} {m : MethodId} {args : Array Value} {below : List Frame} {meth : Method} {c : Code} {H : Heap} {locs : List Loc} {cells slots : Nat} {Q : State → Prop} {cc : ByteArray} {pc : Nat} {ls : Array Slot} {rest st st0 : List Value} {D : va_G} {cy cl : ClassId} {AA : Nat → Prop}
theorem kr_lI {V : Type} {post : Int32 → V → Prop} {wq : V → va_W} {v : Int32} {u : V} (hx : p.tables.exec = Jvm.exec) (hb : c.code = cc) (hr : meth.sig.returnType = some .int) (hlocks : meth.locks = false) (hP : va_P D vwCl (wq u) H) (hK : va_K D vwCl [(cy, .int), (cl, .long)] s) (hD : va_D AA (wq u)) (hS : va_S AA s.heap H locs) (hp : post v u) (hdg : decode cc pc = .ok (.ireturn, 1)) : W p l e R s m args below meth c H locs cells slots (MQ below (va_Qi post (fun u t => kr_Lq D (wq u) cy cl AA t) AA) args s cells slots AA) (F0 m pc ls [.int v]) := W.iret hx hb hr (fun t ht hW => ⟨⟨v, u, rfl, hp, by rw [ht]; exact hP, va_K.moved hW.alike hK, hD⟩, hS.F ht⟩) hS.2.2 hdg hlocks
/-- a call in a part of the world -/
theorem kr_cI {V : Type} {post : Int32 → V → Prop} {B : V → State → Prop} {w1 ws1 : V → va_W} {ws wc wr : va_W} {mc ms : Nat} {a : Array Value} {H0 : Heap} (isC isR isO : List Nat) (hr : va_Run p l e R s m args below meth c H locs cells slots mc ms (F0 m pc ls st0) rest (va_Qi post B (va_A wc H.size) a) (va_A wc H.size)) (hB : ∀ u t, B u t → va_P D vwCl (w1 u) t.heap ∧ va_D (va_A wc H.size) (w1 u)) (hC : isC.map (fun i => ws[i]?) = wc.map some) (hR : isR.map (fun i => ws[i]?) = wr.map some) (hn : va_nd isR = true) (hdis : ∀ i ∈ isR, i ∉ isC) (hO : ∀ u, isO.map (fun i => (wr ++ w1 u)[i]?) = (ws1 u).map some) (hOn : va_nd isO = true) (hP : va_P D vwCl ws H) (hD : va_D AA ws) (hS : va_S AA H0 H locs) (hA : ∀ q : Nat, H0.size ≤ q → AA q)
    (kk : ∀ (r : Int32) (u : V) (H1 : Heap) (locs1 : List Loc), post r u → va_P D vwCl (ws1 u) H1 → va_D AA (ws1 u) → va_S AA H0 H1 locs1 → W p l e R s m args below meth c H1 locs1 (cells + mc) (slots + ms) Q (F0 m (pc + 3) ls (.int r :: rest))) : W p l e R s m args below meth c H locs cells slots Q (F0 m pc ls st0) := by
  have hF := va_free hD hS hA isC hC
  refine va_calli hr hS (fun q _ h => hF q h) hF (fun r u t H1 locs1 ht hvm hp hb hz hk hS1 => ?_)
  obtain ⟨hP1, hD1⟩ := hB u t hb
  rw [ht] at hP1
  obtain ⟨hP2, hD2⟩ := va_join hP hD isC isR hC hR hn hdis hk hF hP1 hD1
  exact kk r u H1 locs1 hp (hP2.sub isO (kr_fmap (hO u))) (hD2.sub isO hOn (hO u)) hS1
theorem kr_cV {V : Type} {post : V → Prop} {B : V → State → Prop} {w1 ws1 : V → va_W} {ws wc wr : va_W} {mc ms : Nat} {a : Array Value} {H0 : Heap} (isC isR isO : List Nat) (hr : va_Run p l e R s m args below meth c H locs cells slots mc ms (F0 m pc ls st0) rest (va_Qv post B (va_A wc H.size) a) (va_A wc H.size)) (hB : ∀ u t, B u t → va_P D vwCl (w1 u) t.heap ∧ va_D (va_A wc H.size) (w1 u)) (hC : isC.map (fun i => ws[i]?) = wc.map some) (hR : isR.map (fun i => ws[i]?) = wr.map some) (hn : va_nd isR = true) (hdis : ∀ i ∈ isR, i ∉ isC) (hO : ∀ u, isO.map (fun i => (wr ++ w1 u)[i]?) = (ws1 u).map some) (hOn : va_nd isO = true) (hP : va_P D vwCl ws H) (hD : va_D AA ws) (hS : va_S AA H0 H locs) (hA : ∀ q : Nat, H0.size ≤ q → AA q)
    (kk : ∀ (u : V) (t : State) (H1 : Heap) (locs1 : List Loc), t.heap = H1 → s.vm.Alike t.vm → B u t → post u → va_P D vwCl (ws1 u) H1 → va_D AA (ws1 u) → va_S AA H0 H1 locs1 → W p l e R s m args below meth c H1 locs1 (cells + mc) (slots + ms) Q (F0 m (pc + 3) ls rest)) : W p l e R s m args below meth c H locs cells slots Q (F0 m pc ls st0) := by
  have hF := va_free hD hS hA isC hC
  refine va_callv hr hS (fun q _ h => hF q h) hF (fun u t H1 locs1 ht hvm hp hb hz hk hS1 => ?_)
  obtain ⟨hP1, hD1⟩ := hB u t hb
  rw [ht] at hP1
  obtain ⟨hP2, hD2⟩ := va_join hP hD isC isR hC hR hn hdis hk hF hP1 hD1
  exact kk u t H1 locs1 ht hvm hb hp (hP2.sub isO (kr_fmap (hO u))) (hD2.sub isO hOn (hO u)) hS1
theorem kr_pvh {h o N L : Nat} {a : Nat → Nat} {A : Nat → Nat → Int32} {O : Nat → Int64} {As : List Value} (hP : va_P D vwCl (kr_WL cy cl h a o N L A O) H) (hK : va_K D vwCl [(cy, .int), (cl, .long)] s) : PreV s H RX0 h (va_Pc (.ref h :: As) (kr_R D (kr_W0 cy h a N L A) cy)) As := kr_pv0 (hP.sub [0, 1, 2, 3, 4, 5, 6, 7, 8] rfl) (hK.sub [0] rfl)
theorem kr_pvt {h o N L : Nat} {a : Nat → Nat} {A : Nat → Nat → Int32} {O : Nat → Int64} {As : List Value} (hP : va_P D vwCl (kr_WL cy cl h a o N L A O) s.heap) (hK : va_K D vwCl [(cy, .int), (cl, .long)] s) (hT : kr_T s) : PreV s s.heap RX0 h (va_Pc (.ref h :: As) (kr_RT D (kr_W0 cy h a N L A) cy)) As := kr_pvx (hP.sub [0, 1, 2, 3, 4, 5, 6, 7, 8] rfl) (hK.sub [0] rfl) hT (fun _ _ => rfl)
/-- a helper's call of a method that writes -/
theorem kr_hwI {own : String} {idx maxL nL n h o N L N2 L2 : Nat} {a : Nat → Nat} {A A2 : Nat → Nat → Int32} {O : Nat → Int64} {y : MethodName} {bytes : ByteArray} {ret : Option FieldType} {rm : Room} {As : List Value} {H0 : Heap} {post : Int32 → Prop} (S : CallFix p m c cc nL s args kr_all own) (hM : Met l y (Cond.code y bytes maxL ret :: kr_all) rm (va_Pc (.ref h :: As) (kr_Rw D (kr_W0 cy h a N L A) cy H.size)) (va_Qi (fun r (_ : Unit) => post r) (fun _ t => kr_Rq D (kr_W0 cy h a N2 L2 A2) cy (va_A (kr_W0 cy h a N L A) H.size) t) (va_A (kr_W0 cy h a N L A) H.size)) 0 0 (va_A (kr_W0 cy h a N L A) H.size)) (g : GoodIn kr_all (wsV own idx RX0 y (Cond.code y bytes maxL ret :: kr_all))) (hr0 : rm.cells = 0 ∧ rm.slots = 0)
    (hd : y.cls = RX0 ∧ y.cls ≠ "java/lang/invoke/MethodHandle" ∧ y.cls ≠ "java/lang/invoke/VarHandle" ∧ (parseMethodDescriptor y.desc).map (fun d => d.parameters.length) = some n) (hR : rm.frames + 1 ≤ R.frames ∧ 8 + (maxL + 11) + rm.locals ≤ R.locals) (hP : va_P D vwCl (kr_WL cy cl h a o N L A O) H) (hK : va_K D vwCl [(cy, .int), (cl, .long)] s) (hD : va_D AA (kr_WL cy cl h a o N L A O)) (hS : va_S AA H0 H locs) (hA : ∀ q : Nat, H0.size ≤ q → AA q) (hn : As.length = n) (hsize : ls.size = nL) (hst : st0 = As.reverse ++ .ref h :: rest) (hW : (rest.map fun v => v.category).sum ≤ 8) (hdg : decode cc pc = .ok (.invokevirtual idx, 3)) (hf : cells + 0 ≤ R.cells ∧ slots + 0 ≤ R.slots)
    (kk : ∀ (r : Int32) (H1 : Heap) (locs1 : List Loc), post r → va_P D vwCl (kr_WL cy cl h a o N2 L2 A2 O) H1 → va_D AA (kr_WL cy cl h a o N2 L2 A2 O) → va_S AA H0 H1 locs1 → W p l e R s m args below meth c H1 locs1 cells slots Q (F0 m (pc + 3) ls (.int r :: rest))) : W p l e R s m args below meth c H locs cells slots Q (F0 m pc ls st0) := by
  have hP0 : va_P D vwCl (kr_W0 cy h a N L A) H := hP.sub [0, 1, 2, 3, 4, 5, 6, 7, 8] rfl
  have hD0 : va_D AA (kr_W0 cy h a N L A) := hD.sub [0, 1, 2, 3, 4, 5, 6, 7, 8] (by decide) rfl
  have hK0 : va_K D vwCl [(cy, .int)] s := hK.sub [0] rfl
  exact kr_cI (V := Unit) (w1 := fun _ => kr_W0 cy h a N2 L2 A2) (ws1 := fun _ => kr_WL cy cl h a o N2 L2 A2 O) (wc := kr_W0 cy h a N L A) (wr := [(o, .inl (cl, 1, .inr (.inl O)))]) [0, 1, 2, 3, 4, 5, 6, 7, 8] [9] [1, 2, 3, 4, 5, 6, 7, 8, 9, 0]
    (va_runV S hM (cwV n S.2.2.2.2 g rfl hr0.1 hr0.2 hd hR) ⟨kr_blw, va_recv hK0 hP0 (ci := 0) (q0 := 0) rfl rfl, fun U hU hW => ⟨rfl, by rw [hU], by rw [hU]; exact hP0, va_K.moved hW.alike hK0, hD0.weaken (fun _ _ _ _ => trivial)⟩⟩ rfl hn hsize hst (lv_room (pc := pc) (ls := ls) (m := m) (rest := st0) hW) hdg hf)
    (fun _ t h9 => ⟨h9.1, h9.2.2⟩) rfl rfl rfl (by decide) (fun _ => rfl) (by decide) hP hD hS hA (fun r _ H1 locs1 h1 h2 h3 h4 => kk r H1 locs1 h1 h2 h3 h4)
/-- a call that throws, caught by the row x -/
theorem kr_lx {own E : String} {hh : List (Nat × Nat × Nat × Nat)} (hr : vx_Run p l e R s m args below meth c s.heap [] 0 0 1 6 (F0 m pc ls st0) rest (fun _ _ _ => False) (kr_XC E) (fun _ => False)) (hown : s.vm.findClass own = some m.cls) (htab : c.exceptionTable.toList = tableOf hh) (pre : List ExceptionTableEntry) (x : ExceptionTableEntry) (suf : List ExceptionTableEntry) (hsplit : tableOf hh = pre ++ x :: suf) (hpass : ∀ z ∈ pre, covers z pc = false ∨ (z.catchType ≠ 0 ∧ ∃ nm : String, (Cond.classLink own z.catchType nm).before args s = true ∧ va_Nc E nm s)) (hx : covers x pc = true) (h0 : x.catchType ≠ 0) (hlink : (Cond.classLink own x.catchType E).before args s = true) (hcast : (Cond.castable E E).before args s = true)
    (kk : ∀ (q : Nat) (H1 : Heap), s.heap.size ≤ H1.size → (∀ b : Nat, b < s.heap.size → H1[b]? = s.heap[b]?) → W p l e R s m args below meth c H1 [] 1 6 Q (F0 m x.handlerPc ls [.ref q])) : W p l e R s m args below meth c s.heap [] 0 0 Q (F0 m pc ls st0) := by
  intro T hT X
  rcases hr T hT X with ⟨v, st₀, t, T', L, h0', X', hL, e1, e2, hq, st⟩ | ⟨q, st₀, t, T', L, E', ce, h0', X', hL, e1, e2, ⟨u, hu, hE, hF⟩, hce, hcv, hcl, st⟩
  · exact hq.elim
  · have hE' : E' = E := hE
    subst hE'
    have hL0 : L = [] := by
      cases L with
      | nil => rfl
      | cons z zs => exact (hL z List.mem_cons_self).elim
    subst hL0
    have k : vx_W p l e R s m args below meth c T'.heap ([] ++ []) (0 + 1) (0 + 6) Q (F0 m pc ls rest) q :=
      vx_catch hown pre x suf (htab.trans hsplit) hpass hx h0 hlink hcast (by rw [e1]; exact hce) hcv hcl (kk q T'.heap (by rw [e1, ← h0']; exact hF.1) (fun b hb => by rw [e1, hF.2 b (by rw [h0']; exact hb) id, h0']))
    obtain ⟨t2, a1, b1⟩ := k T' rfl X'
    exact ⟨t2, st.trans a1, b1⟩
theorem kr_cov {s0 e0 p1 k pc : Nat} (h1 : s0 ≤ pc) (h2 : pc < e0) : covers ⟨s0, e0, p1, k⟩ pc = true := by
  show (decide (s0 ≤ pc) && decide (pc < e0)) = true
  simp [h1, h2]
section KRLH
variable {idx maxL nL n : Nat} {C : String} {y : MethodName} {bytes : ByteArray} {ret : Option FieldType} {rm : Room} {b : Addr} {As : List Value} {Pc : Array Value → State → Prop}
theorem kr_h1 {s0 e0 p1 : Nat} {t1 : List (Nat × Nat × Nat × Nat)} (S : CallFix p m c cc nL s args kr_all RL) (hM : vx_Met l y (Cond.code y bytes maxL ret :: kr_all) rm Pc kr_no (kr_XC "java/lang/IndexOutOfBoundsException") 1 6 (fun _ => False)) (g : GoodIn kr_all (wsV RL idx C y (Cond.code y bytes maxL ret :: kr_all))) (hr0 : rm.cells = 1 ∧ rm.slots = 6)
    (hd : y.cls = C ∧ y.cls ≠ "java/lang/invoke/MethodHandle" ∧ y.cls ≠ "java/lang/invoke/VarHandle" ∧ (parseMethodDescriptor y.desc).map (fun d => d.parameters.length) = some n) (hR : rm.frames + 1 ≤ R.frames ∧ 8 + (maxL + 11) + rm.locals ≤ R.locals) (hp : PreV s s.heap C b Pc As) (hn : As.length = n) (hsize : ls.size = nL) (hst : st0 = As.reverse ++ .ref b :: rest) (hW : (rest.map fun v => v.category).sum ≤ 8) (hdg : decode cc pc = .ok (.invokevirtual idx, 3)) (hf : 0 + 1 ≤ R.cells ∧ 0 + 6 ≤ R.slots)
    (hT : kr_T s) (htab : c.exceptionTable.toList = tableOf ((s0, e0, p1, 13) :: t1)) (hcov : s0 ≤ pc ∧ pc < e0)
    (kk : ∀ (q : Nat) (H1 : Heap), s.heap.size ≤ H1.size → (∀ b : Nat, b < s.heap.size → H1[b]? = s.heap[b]?) → W p l e R s m args below meth c H1 [] 1 6 Q (F0 m p1 ls [.ref q])) : W p l e R s m args below meth c s.heap [] 0 0 Q (F0 m pc ls st0) := by
  obtain ⟨z1, z2, d1, d2, d3w, k1, k2, k3, n1, n2, n3, htt⟩ := hT
  exact kr_lx (vx_runV S hM (cwV n S.2.2.2.2 g rfl hr0.1 hr0.2 hd hR) hp rfl hn hsize hst (lv_room (pc := pc) (ls := ls) (m := m) (rest := st0) hW) hdg hf) S.2.2.2.1 htab [] ⟨s0, e0, p1, 13⟩ (tableOf t1) rfl (fun z hz => absurd hz List.not_mem_nil) (kr_cov hcov.1 hcov.2) (show (13 : Nat) ≠ 0 by decide) (S.2.2.2.2 _ kq_306) (va_Nw.use rfl k1) kk
theorem kr_h2 {s0 e0 p1 p2 : Nat} {t1 : List (Nat × Nat × Nat × Nat)} (S : CallFix p m c cc nL s args kr_all RL) (hM : vx_Met l y (Cond.code y bytes maxL ret :: kr_all) rm Pc kr_no (kr_XC "java/lang/IllegalArgumentException") 1 6 (fun _ => False)) (g : GoodIn kr_all (wsV RL idx C y (Cond.code y bytes maxL ret :: kr_all))) (hr0 : rm.cells = 1 ∧ rm.slots = 6)
    (hd : y.cls = C ∧ y.cls ≠ "java/lang/invoke/MethodHandle" ∧ y.cls ≠ "java/lang/invoke/VarHandle" ∧ (parseMethodDescriptor y.desc).map (fun d => d.parameters.length) = some n) (hR : rm.frames + 1 ≤ R.frames ∧ 8 + (maxL + 11) + rm.locals ≤ R.locals) (hp : PreV s s.heap C b Pc As) (hn : As.length = n) (hsize : ls.size = nL) (hst : st0 = As.reverse ++ .ref b :: rest) (hW : (rest.map fun v => v.category).sum ≤ 8) (hdg : decode cc pc = .ok (.invokevirtual idx, 3)) (hf : 0 + 1 ≤ R.cells ∧ 0 + 6 ≤ R.slots)
    (hT : kr_T s) (htab : c.exceptionTable.toList = tableOf ((s0, e0, p1, 13) :: (s0, e0, p2, 15) :: t1)) (hcov : s0 ≤ pc ∧ pc < e0)
    (kk : ∀ (q : Nat) (H1 : Heap), s.heap.size ≤ H1.size → (∀ b : Nat, b < s.heap.size → H1[b]? = s.heap[b]?) → W p l e R s m args below meth c H1 [] 1 6 Q (F0 m p2 ls [.ref q])) : W p l e R s m args below meth c s.heap [] 0 0 Q (F0 m pc ls st0) := by
  obtain ⟨z1, z2, d1, d2, d3w, k1, k2, k3, n1, n2, n3, htt⟩ := hT
  refine kr_lx (vx_runV S hM (cwV n S.2.2.2.2 g rfl hr0.1 hr0.2 hd hR) hp rfl hn hsize hst (lv_room (pc := pc) (ls := ls) (m := m) (rest := st0) hW) hdg hf) S.2.2.2.1 htab [⟨s0, e0, p1, 13⟩] ⟨s0, e0, p2, 15⟩ (tableOf t1) rfl (fun z hz => ?_) (kr_cov hcov.1 hcov.2) (show (15 : Nat) ≠ 0 by decide) (S.2.2.2.2 _ kq_307) (va_Nw.use rfl k2) kk
  rw [List.mem_singleton] at hz
  subst hz
  exact Or.inr ⟨show (13 : Nat) ≠ 0 by decide, _, S.2.2.2.2 _ kq_306, n1⟩
theorem kr_h3 {s0 e0 p1 p2 p3 : Nat} {t1 : List (Nat × Nat × Nat × Nat)} (S : CallFix p m c cc nL s args kr_all RL) (hM : vx_Met l y (Cond.code y bytes maxL ret :: kr_all) rm Pc kr_no (kr_XC "java/lang/IllegalStateException") 1 6 (fun _ => False)) (g : GoodIn kr_all (wsV RL idx C y (Cond.code y bytes maxL ret :: kr_all))) (hr0 : rm.cells = 1 ∧ rm.slots = 6)
    (hd : y.cls = C ∧ y.cls ≠ "java/lang/invoke/MethodHandle" ∧ y.cls ≠ "java/lang/invoke/VarHandle" ∧ (parseMethodDescriptor y.desc).map (fun d => d.parameters.length) = some n) (hR : rm.frames + 1 ≤ R.frames ∧ 8 + (maxL + 11) + rm.locals ≤ R.locals) (hp : PreV s s.heap C b Pc As) (hn : As.length = n) (hsize : ls.size = nL) (hst : st0 = As.reverse ++ .ref b :: rest) (hW : (rest.map fun v => v.category).sum ≤ 8) (hdg : decode cc pc = .ok (.invokevirtual idx, 3)) (hf : 0 + 1 ≤ R.cells ∧ 0 + 6 ≤ R.slots)
    (hT : kr_T s) (htab : c.exceptionTable.toList = tableOf ((s0, e0, p1, 13) :: (s0, e0, p2, 15) :: (s0, e0, p3, 17) :: t1)) (hcov : s0 ≤ pc ∧ pc < e0)
    (kk : ∀ (q : Nat) (H1 : Heap), s.heap.size ≤ H1.size → (∀ b : Nat, b < s.heap.size → H1[b]? = s.heap[b]?) → W p l e R s m args below meth c H1 [] 1 6 Q (F0 m p3 ls [.ref q])) : W p l e R s m args below meth c s.heap [] 0 0 Q (F0 m pc ls st0) := by
  obtain ⟨z1, z2, d1, d2, d3w, k1, k2, k3, n1, n2, n3, htt⟩ := hT
  refine kr_lx (vx_runV S hM (cwV n S.2.2.2.2 g rfl hr0.1 hr0.2 hd hR) hp rfl hn hsize hst (lv_room (pc := pc) (ls := ls) (m := m) (rest := st0) hW) hdg hf) S.2.2.2.1 htab [⟨s0, e0, p1, 13⟩, ⟨s0, e0, p2, 15⟩] ⟨s0, e0, p3, 17⟩ (tableOf t1) rfl (fun z hz => ?_) (kr_cov hcov.1 hcov.2) (show (17 : Nat) ≠ 0 by decide) (S.2.2.2.2 _ kq_308) (va_Nw.use rfl k3) kk
  rcases List.mem_cons.mp hz with h9 | h9
  · subst h9; exact Or.inr ⟨show (13 : Nat) ≠ 0 by decide, _, S.2.2.2.2 _ kq_306, n2⟩
  · rw [List.mem_singleton] at h9
    subst h9; exact Or.inr ⟨show (15 : Nat) ≠ 0 by decide, _, S.2.2.2.2 _ kq_307, n3⟩
end KRLH
/-- where it was caught: the world is still there -/
theorem kr_lkP {ws : va_W} {H1 : Heap} (hP : va_P D vwCl ws s.heap) (hk : ∀ b : Nat, b < s.heap.size → H1[b]? = s.heap[b]?) : va_P D vwCl ws H1 := hP.kept (fun k x hx => hk x.1 (vx_lt hP hx))
theorem kr_lkS {H1 : Heap} (hz : s.heap.size ≤ H1.size) (hk : ∀ b : Nat, b < s.heap.size → H1[b]? = s.heap[b]?) : va_S AA s.heap H1 [] := ⟨hz, fun q h1 _ => hk q h1, fun _ h => absurd h List.not_mem_nil⟩
end KRL
