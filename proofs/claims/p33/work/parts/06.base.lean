/-! the rack's walks: worlds, contracts' words, calls, loops -/
theorem kr_good {ws : List Cond} (h : ∀ w ∈ ws, w ∈ kr_all) : GoodIn kr_all ws := fun w hw => ⟨h w hw, good_of_word (List.mem_filter.mp (h w hw)).2⟩
theorem kr_gV {own C : String} {idx n : Nat} {y : MethodName} {b : ByteArray} {r : Option FieldType} (h1 : Cond.methodLink own idx y ∈ kr_all) (h2 : Cond.instanceMethod y ∈ kr_all) (h3 : Cond.selects C y y ∈ kr_all) (h4 : Cond.initialized C ∈ kr_all) (h5 : Cond.code y b n r ∈ kr_all) : GoodIn kr_all (wsV own idx C y (Cond.code y b n r :: kr_all)) := by
  refine kr_good (fun w hw => ?_)
  unfold wsV at hw
  rcases List.mem_append.mp hw with h | h
  · simp only [List.mem_cons, List.not_mem_nil, or_false] at h
    rcases h with rfl | rfl | rfl | rfl <;> assumption
  · rcases List.mem_cons.mp h with rfl | h
    · exact h5
    · exact h
theorem kr_gS {own : String} {idx n : Nat} {y : MethodName} {b : ByteArray} {r : Option FieldType} (h1 : Cond.methodLink own idx y ∈ kr_all) (h2 : Cond.static y ∈ kr_all) (h4 : Cond.initialized own ∈ kr_all) (h5 : Cond.code y b n r ∈ kr_all) : GoodIn kr_all (wsS own idx y (Cond.code y b n r :: kr_all)) := by
  refine kr_good (fun w hw => ?_)
  unfold wsS at hw
  rcases List.mem_append.mp hw with h | h
  · simp only [List.mem_cons, List.not_mem_nil, or_false] at h
    rcases h with rfl | rfl | rfl <;> assumption
  · rcases List.mem_cons.mp h with rfl | h
    · exact h5
    · exact h
theorem kr_gC {n : Nat} {y : MethodName} {b : ByteArray} {r : Option FieldType} (h5 : Cond.code y b n r ∈ kr_all) : GoodIn kr_all (Cond.code y b n r :: kr_all) := kr_good (fun w hw => by
  rcases List.mem_cons.mp hw with rfl | h
  · exact h5
  · exact h)
/-- a row of rows, one replaced -/
def kr_up (A : Nat → Nat → Int32) (i : Nat) (f : Nat → Int32) : Nat → Nat → Int32 := fun j => if j = i then f else A j
abbrev kr_W0 (cy : ClassId) (h : Nat) (a : Nat → Nat) (N L : Nat) (A : Nat → Nat → Int32) : va_W :=
  [(h, .inr (0, [.ref (a 0), .ref (a 1), .ref (a 2), .ref (a 3), .ref (a 4), .int (nI N), .ref (a 5), .int (nI L), .ref (a 6), .ref (a 7)])), (a 0, .inl (cy, 16, .inl (A 0))), (a 1, .inl (cy, 16, .inl (A 1))), (a 2, .inl (cy, 16, .inl (A 2))), (a 3, .inl (cy, 16, .inl (A 3))), (a 4, .inl (cy, 16, .inl (A 4))), (a 5, .inl (cy, 6, .inl (A 5))), (a 6, .inl (cy, 30, .inl (A 6))), (a 7, .inl (cy, 30, .inl (A 7)))]
/-- the heap holds the world -/
def kr_R (D : va_G) (ws : va_W) (cy : ClassId) (U : State) : Prop := va_P D vwCl ws U.heap ∧ va_K D vwCl [(cy, .int)] U
theorem kr_bl {D : va_G} {ws : va_W} {cy : ClassId} {av : List Value} : FrameBlind (va_Pc av (kr_R D ws cy)) := fun a U g mk q => ⟨q.1, q.2.1, va_K.moved (u := U) (U := U.calling g mk a) (Vm.Alike.refl U.vm) q.2.2⟩
theorem kr_blT {av : List Value} : FrameBlind (va_Pc av (fun _ => True)) := fun _ _ _ _ q => q
theorem kr_pr {D : va_G} {ws : va_W} {cy : ClassId} {av : List Value} {H : Heap} {s : State} (hP : va_P D vwCl ws H) (hK : va_K D vwCl [(cy, .int)] s) : ∀ U : State, U.heap = H → s.WarmedH U.vm → va_Pc av (kr_R D ws cy) av.toArray U := fun U hU hW => ⟨rfl, by rw [hU]; exact hP, va_K.moved hW.alike hK⟩
theorem kr_pv0 {D : va_G} {cy : ClassId} {h : Nat} {a : Nat → Nat} {N L : Nat} {A : Nat → Nat → Int32} {As : List Value} {H : Heap} {s : State} (hP : va_P D vwCl (kr_W0 cy h a N L A) H) (hK : va_K D vwCl [(cy, .int)] s) : PreV s H RX0 h (va_Pc (.ref h :: As) (kr_R D (kr_W0 cy h a N L A) cy)) As := ⟨kr_bl, va_recv hK hP (ci := 0) (q0 := 0) rfl rfl, kr_pr hP hK⟩
/-- a body, begun -/
theorem kr_of {l : Launch} {y : MethodName} {cc : ByteArray} {maxL : Nat} {ret : Option FieldType} {rm : Room} {vs : List Value} {B : State → Prop} {Qc : Array Value → State → Outcome → State → Prop} {mc ms : Nat} {free : Addr → Prop} (hy : plainName y.cls = true) (hlen : (lg_sl vs).length ≤ maxL)
    (body : ∀ (p : Program) (e : Env) (s : State) (m : MethodId) (below : List Frame) (meth : Method) (c : Code) (ls : Array Slot), p.tables.exec = Jvm.exec → c.code = cc → c.maxLocals = maxL → meth.sig.returnType = ret → (∀ w ∈ kr_all, w.before vs.toArray s = true) → s.vm.findClass y.cls = some m.cls → meth.locks = false → meth.name = y.name → B s → lv_has ls maxL (lv_args 0 vs) → W p l e rm s m vs.toArray below meth c s.heap [] 0 0 (MQ below Qc vs.toArray s mc ms free) (F0 m 0 ls [])) :
    Met l y (Cond.code y cc maxL ret :: kr_all) rm (va_Pc vs B) Qc mc ms free := by
  refine Met.ofW (cc := cc) (maxL := maxL) (ret := ret) hy rfl ?_
  intro p e s m args below meth c s₁ B hml hv
  obtain ⟨rfl, hv⟩ := hv
  have hts := atoms_spec (ws := Cond.code y cc maxL ret :: kr_all) B.pre
  have hl := lv_entry vs (n := maxL) hlen
  rw [lg_entry_eq]
  exact body p e s m below meth c _ B.exec B.bytes hml B.returns (fun w h => hts w (List.mem_cons_of_mem _ h)) (findClass_of_methodNamed B.named) B.notSynchronized (name_of_methodNamed B.named B.method).1 hv hl
/-- a body that may throw, begun -/
theorem kr_ofX {l : Launch} {y : MethodName} {cc : ByteArray} {maxL : Nat} {ret : Option FieldType} {rm : Room} {vs : List Value} {B : State → Prop} {Qc : Array Value → State → Outcome → State → Prop} {XC : String → State → State → Prop} {mc ms : Nat} {free : Addr → Prop} (hy : plainName y.cls = true) (hlen : (lg_sl vs).length ≤ maxL)
    (body : ∀ (p : Program) (e : Env) (s : State) (m : MethodId) (below : List Frame) (meth : Method) (c : Code) (ls : Array Slot), p.tables.exec = Jvm.exec → c.code = cc → c.maxLocals = maxL → meth.sig.returnType = ret → (∀ w ∈ kr_all, w.before vs.toArray s = true) → s.vm.findClass y.cls = some m.cls → meth.locks = false → (∀ x ∈ c.exceptionTable.toList, False) → B s → lv_has ls maxL (lv_args 0 vs) → W p l e rm s m vs.toArray below meth c s.heap [] 0 0 (vx_MQ below Qc XC vs.toArray s mc ms free) (F0 m 0 ls [])) :
    vx_Met l y (Cond.code y cc maxL ret :: kr_all) rm (va_Pc vs B) Qc XC mc ms free := by
  refine vx_ofW (cc := cc) (maxL := maxL) (ret := ret) hy rfl ?_
  intro p e s m args below meth c s₁ B hml ht hv
  obtain ⟨rfl, hv⟩ := hv
  have hts := atoms_spec (ws := Cond.code y cc maxL ret :: kr_all) B.pre
  have hl := lv_entry vs (n := maxL) hlen
  rw [lg_entry_eq]
  exact body p e s m below meth c _ B.exec B.bytes hml B.returns (fun w h => hts w (List.mem_cons_of_mem _ h)) (findClass_of_methodNamed B.named) B.notSynchronized ht hv hl
section KRW
variable {p : Program} {l : Launch} {e : Env} {R : Room} {s : State} {m : MethodId} {args : Array Value} {below : List Frame} {meth : Method} {c : Code} {H : Heap} {locs : List Loc} {cells slots : Nat} {Q : State → Prop} {cc : ByteArray} {pc : Nat} {ls : Array Slot} {rest st st0 : List Value}
/-- a loop: a measure that falls, the heap as it is -/
theorem kr_lp {α : Type} {nL : Nat} (lv : α → List (Nat × Value)) (I : α → Prop) (μ : α → Nat)
    (body : ∀ (q : α) (ls : Array Slot), I q → lv_has ls nL (lv q) → (∀ (q' : α) (ls' : Array Slot), I q' → μ q' < μ q → lv_has ls' nL (lv q') → W p l e R s m args below meth c H locs cells slots Q (F0 m pc ls' st)) → W p l e R s m args below meth c H locs cells slots Q (F0 m pc ls st))
    (q0 : α) (h0 : I q0) {ls : Array Slot} (hl : lv_has ls nL (lv q0)) : W p l e R s m args below meth c H locs cells slots Q (F0 m pc ls st) := by
  have key : ∀ (n : Nat) (q : α) (ls : Array Slot), μ q < n → I q → lv_has ls nL (lv q) → W p l e R s m args below meth c H locs cells slots Q (F0 m pc ls st) := by
    intro n
    induction n with
    | zero => intro q ls h; omega
    | succ n ih => intro q ls h hI hl; exact body q ls hI hl (fun q' ls' hI' hm hl' => ih q' ls' (by omega) hI' hl')
  exact key (μ q0 + 1) q0 ls (Nat.lt_succ_self _) h0 hl
/-- a loop that writes: the heap and what was written go with the state -/
theorem kr_lpH {α : Type} {nL : Nat} (lv : α → List (Nat × Value)) (I : α → Heap → List Loc → Prop) (μ : α → Nat)
    (body : ∀ (q : α) (H : Heap) (locs : List Loc) (ls : Array Slot), I q H locs → lv_has ls nL (lv q) → (∀ (q' : α) (H' : Heap) (locs' : List Loc) (ls' : Array Slot), I q' H' locs' → μ q' < μ q → lv_has ls' nL (lv q') → W p l e R s m args below meth c H' locs' cells slots Q (F0 m pc ls' st)) → W p l e R s m args below meth c H locs cells slots Q (F0 m pc ls st))
    (q0 : α) {H : Heap} {locs : List Loc} (h0 : I q0 H locs) {ls : Array Slot} (hl : lv_has ls nL (lv q0)) : W p l e R s m args below meth c H locs cells slots Q (F0 m pc ls st) := by
  have key : ∀ (n : Nat) (q : α) (H : Heap) (locs : List Loc) (ls : Array Slot), μ q < n → I q H locs → lv_has ls nL (lv q) → W p l e R s m args below meth c H locs cells slots Q (F0 m pc ls st) := by
    intro n
    induction n with
    | zero => intro q H locs ls h; omega
    | succ n ih => intro q H locs ls h hI hl; exact body q H locs ls hI hl (fun q' H' locs' ls' hI' hm hl' => ih q' H' locs' ls' (by omega) hI' hl')
  exact key (μ q0 + 1) q0 H locs ls (Nat.lt_succ_self _) h0 hl
/-- what lies behind a join, walked once -/
theorem kr_jn {pcJ : Nat} {stJ : List Value} (P : Int32 → Prop) (hJ : ∀ v : Int32, P v → W p l e R s m args below meth c H locs cells slots Q (F0 m pcJ ls (.int v :: stJ))) (k : (∀ v : Int32, P v → W p l e R s m args below meth c H locs cells slots Q (F0 m pcJ ls (.int v :: stJ))) → W p l e R s m args below meth c H locs cells slots Q (F0 m pc ls st)) : W p l e R s m args below meth c H locs cells slots Q (F0 m pc ls st) := k hJ
theorem kr_cut {pcJ : Nat} {stJ : List Value} (hJ : W p l e R s m args below meth c H locs cells slots Q (F0 m pcJ ls stJ)) (k : W p l e R s m args below meth c H locs cells slots Q (F0 m pcJ ls stJ) → W p l e R s m args below meth c H locs cells slots Q (F0 m pc ls st)) : W p l e R s m args below meth c H locs cells slots Q (F0 m pc ls st) := k hJ
theorem kr_iaddN (hx : p.tables.exec = Jvm.exec) (hb : c.code = cc) (x y : Nat) (hdg : decode cc pc = .ok (.iadd, 1)) (k : W p l e R s m args below meth c H locs cells slots Q (F0 m (pc + 1) ls (.int (nI (x + y)) :: rest))) : W p l e R s m args below meth c H locs cells slots Q (F0 m pc ls (.int (nI y) :: .int (nI x) :: rest)) := lv_iadd hx hb hdg (by rw [nI_add]; exact k)
theorem kr_imulN (hx : p.tables.exec = Jvm.exec) (hb : c.code = cc) (x y : Nat) (hdg : decode cc pc = .ok (.imul, 1)) (k : W p l e R s m args below meth c H locs cells slots Q (F0 m (pc + 1) ls (.int (nI (x * y)) :: rest))) : W p l e R s m args below meth c H locs cells slots Q (F0 m pc ls (.int (nI y) :: .int (nI x) :: rest)) := lv_imul hx hb hdg (by rw [pk_mul]; exact k)
theorem kr_isubN (hx : p.tables.exec = Jvm.exec) (hb : c.code = cc) (x y : Nat) (h : y ≤ x) (hdg : decode cc pc = .ok (.isub, 1)) (k : W p l e R s m args below meth c H locs cells slots Q (F0 m (pc + 1) ls (.int (nI (x - y)) :: rest))) : W p l e R s m args below meth c H locs cells slots Q (F0 m pc ls (.int (nI y) :: .int (nI x) :: rest)) := lv_isub hx hb hdg (by rw [pk_sub h]; exact k)
theorem kr_ald {D : va_G} {cl : List vw_C} {tys : List (ClassId × FieldType)} {ws : va_W} {a : Nat} (hx : p.tables.exec = Jvm.exec) (hb : c.code = cc) (hK : va_K D cl tys s) (hP : va_P D cl ws H) (q0 t0 : Nat) {cA : ClassId} {n : Nat} {f : Nat → Int32} (ha : ws[q0]? = some (a, .inl (cA, n, .inl f))) (ht : tys[t0]? = some (cA, .int)) (k : Nat) (hk : k < n) (hn : n < 2 ^ 31) (hdg : decode cc pc = .ok (.iaload, 1))
    (kk : W p l e R s m args below meth c H locs cells slots Q (F0 m (pc + 1) ls (.int (f k) :: rest))) : W p l e R s m args below meth c H locs cells slots Q (F0 m pc ls (.int (nI k) :: .ref a :: rest)) := va_iald hx hb hK hP q0 t0 ha ht (vp_in_nI hk hn) hdg (by rw [nI_clamp (by omega)]; exact kk)
theorem kr_ast {D : va_G} {cl : List vw_C} {tys : List (ClassId × FieldType)} {ws : va_W} {a : Nat} {A : Nat → Prop} {H0 : Heap} (hx : p.tables.exec = Jvm.exec) (hb : c.code = cc) (hK : va_K D cl tys s) (hP : va_P D cl ws H) (hD : va_D A ws) (hS : va_S A H0 H locs) (q0 t0 : Nat) {cA : ClassId} {n : Nat} {f : Nat → Int32} (ha : ws[q0]? = some (a, .inl (cA, n, .inl f))) (ht : tys[t0]? = some (cA, .int)) (k : Nat) {x : Int32} (hk : k < n) (hn : n < 2 ^ 31) (hdg : decode cc pc = .ok (.iastore, 1))
    (kk : ∀ (H1 : Heap) (locs1 : List Loc), va_P D cl (ws.set q0 (a, .inl (cA, n, .inl (upd f k x)))) H1 → va_D A (ws.set q0 (a, .inl (cA, n, .inl (upd f k x)))) → va_S A H0 H1 locs1 → W p l e R s m args below meth c H1 locs1 cells slots Q (F0 m (pc + 1) ls rest)) : W p l e R s m args below meth c H locs cells slots Q (F0 m pc ls (.int x :: .int (nI k) :: .ref a :: rest)) := va_iast hx hb hK hP hD hS q0 t0 ha ht (vp_in_nI hk hn) hdg (by rw [nI_clamp (by omega)]; exact kk)
/-- calls of methods that leave the heap as it is -/
theorem kr_vI {own C : String} {idx maxL nL n : Nat} {y : MethodName} {bytes : ByteArray} {ret : Option FieldType} {rm : Room} {b : Addr} {As : List Value} {Pc : Array Value → State → Prop} {post : Int32 → Prop} (S : CallFix p m c cc nL s args kr_all own) (hM : Met l y (Cond.code y bytes maxL ret :: kr_all) rm Pc (vp_Si post) 0 0 (fun _ => False)) (g : GoodIn kr_all (wsV own idx C y (Cond.code y bytes maxL ret :: kr_all))) (hr0 : rm.cells = 0 ∧ rm.slots = 0)
    (hd : y.cls = C ∧ y.cls ≠ "java/lang/invoke/MethodHandle" ∧ y.cls ≠ "java/lang/invoke/VarHandle" ∧ (parseMethodDescriptor y.desc).map (fun d => d.parameters.length) = some n) (hR : rm.frames + 1 ≤ R.frames ∧ 8 + (maxL + 11) + rm.locals ≤ R.locals) (hp : PreV s H C b Pc As) (hn : As.length = n) (hsize : ls.size = nL) (hst : st0 = As.reverse ++ .ref b :: rest) (hW : (rest.map fun v => v.category).sum ≤ 8) (hdg : decode cc pc = .ok (.invokevirtual idx, 3)) (hf : cells ≤ R.cells ∧ slots ≤ R.slots)
    (kk : ∀ r : Int32, post r → W p l e R s m args below meth c H locs cells slots Q (F0 m (pc + 3) ls (.int r :: rest))) : W p l e R s m args below meth c H locs cells slots Q (F0 m pc ls st0) :=
  vp_callSi (W.runV S hM (cwV n S.2.2.2.2 g rfl hr0.1 hr0.2 hd hR) hp rfl hn hsize hst (lv_room (pc := pc) (ls := ls) (m := m) (rest := st0) hW) hdg hf) kk
theorem kr_vV {own C : String} {idx maxL nL n : Nat} {y : MethodName} {bytes : ByteArray} {ret : Option FieldType} {rm : Room} {b : Addr} {As : List Value} {Pc : Array Value → State → Prop} {post : Unit → Prop} (S : CallFix p m c cc nL s args kr_all own) (hM : Met l y (Cond.code y bytes maxL ret :: kr_all) rm Pc (va_Sv post) 0 0 (fun _ => False)) (g : GoodIn kr_all (wsV own idx C y (Cond.code y bytes maxL ret :: kr_all))) (hr0 : rm.cells = 0 ∧ rm.slots = 0)
    (hd : y.cls = C ∧ y.cls ≠ "java/lang/invoke/MethodHandle" ∧ y.cls ≠ "java/lang/invoke/VarHandle" ∧ (parseMethodDescriptor y.desc).map (fun d => d.parameters.length) = some n) (hR : rm.frames + 1 ≤ R.frames ∧ 8 + (maxL + 11) + rm.locals ≤ R.locals) (hp : PreV s H C b Pc As) (hn : As.length = n) (hsize : ls.size = nL) (hst : st0 = As.reverse ++ .ref b :: rest) (hW : (rest.map fun v => v.category).sum ≤ 8) (hdg : decode cc pc = .ok (.invokevirtual idx, 3)) (hf : cells ≤ R.cells ∧ slots ≤ R.slots)
    (kk : W p l e R s m args below meth c H locs cells slots Q (F0 m (pc + 3) ls rest)) : W p l e R s m args below meth c H locs cells slots Q (F0 m pc ls st0) :=
  va_csv (W.runV S hM (cwV n S.2.2.2.2 g rfl hr0.1 hr0.2 hd hR) hp rfl hn hsize hst (lv_room (pc := pc) (ls := ls) (m := m) (rest := st0) hW) hdg hf) (fun _ => kk)
theorem kr_vL {own C : String} {idx maxL nL n : Nat} {y : MethodName} {bytes : ByteArray} {ret : Option FieldType} {rm : Room} {b : Addr} {As : List Value} {Pc : Array Value → State → Prop} {post : Int64 → Prop} (S : CallFix p m c cc nL s args kr_all own) (hM : Met l y (Cond.code y bytes maxL ret :: kr_all) rm Pc (vp_Sl post) 0 0 (fun _ => False)) (g : GoodIn kr_all (wsV own idx C y (Cond.code y bytes maxL ret :: kr_all))) (hr0 : rm.cells = 0 ∧ rm.slots = 0)
    (hd : y.cls = C ∧ y.cls ≠ "java/lang/invoke/MethodHandle" ∧ y.cls ≠ "java/lang/invoke/VarHandle" ∧ (parseMethodDescriptor y.desc).map (fun d => d.parameters.length) = some n) (hR : rm.frames + 1 ≤ R.frames ∧ 8 + (maxL + 11) + rm.locals ≤ R.locals) (hp : PreV s H C b Pc As) (hn : As.length = n) (hsize : ls.size = nL) (hst : st0 = As.reverse ++ .ref b :: rest) (hW : (rest.map fun v => v.category).sum ≤ 8) (hdg : decode cc pc = .ok (.invokevirtual idx, 3)) (hf : cells ≤ R.cells ∧ slots ≤ R.slots)
    (kk : ∀ r : Int64, post r → W p l e R s m args below meth c H locs cells slots Q (F0 m (pc + 3) ls (.long r :: rest))) : W p l e R s m args below meth c H locs cells slots Q (F0 m pc ls st0) :=
  vp_callSl (W.runV S hM (cwV n S.2.2.2.2 g rfl hr0.1 hr0.2 hd hR) hp rfl hn hsize hst (lv_room (pc := pc) (ls := ls) (m := m) (rest := st0) hW) hdg hf) kk
theorem kr_sI {own : String} {idx maxL nL n : Nat} {y : MethodName} {bytes : ByteArray} {ret : Option FieldType} {rm : Room} {As : List Value} {Pc : Array Value → State → Prop} {post : Int32 → Prop} (S : CallFix p m c cc nL s args kr_all own) (hM : Met l y (Cond.code y bytes maxL ret :: kr_all) rm Pc (vp_Si post) 0 0 (fun _ => False)) (g : GoodIn kr_all (wsS own idx y (Cond.code y bytes maxL ret :: kr_all))) (hr0 : rm.cells = 0 ∧ rm.slots = 0)
    (hd : y.cls = own ∧ y.cls ≠ "java/lang/invoke/MethodHandle" ∧ y.cls ≠ "java/lang/invoke/VarHandle" ∧ (parseMethodDescriptor y.desc).map (fun d => d.parameters.length) = some n) (hR : rm.frames + 1 ≤ R.frames ∧ 8 + (maxL + 11) + rm.locals ≤ R.locals) (hp : PreS s H Pc As) (hn : As.length = n) (hsize : ls.size = nL) (hst : st0 = As.reverse ++ rest) (hW : (rest.map fun v => v.category).sum ≤ 8) (hdg : decode cc pc = .ok (.invokestatic idx, 3)) (hf : cells ≤ R.cells ∧ slots ≤ R.slots)
    (kk : ∀ r : Int32, post r → W p l e R s m args below meth c H locs cells slots Q (F0 m (pc + 3) ls (.int r :: rest))) : W p l e R s m args below meth c H locs cells slots Q (F0 m pc ls st0) :=
  vp_callSi (W.runS S hM (cwS n S.2.2.2.2 g rfl hr0.1 hr0.2 hd hR) hp rfl hn hsize hst (lv_room (pc := pc) (ls := ls) (m := m) (rest := st0) hW) hdg hf) kk
theorem kr_sL {own : String} {idx maxL nL n : Nat} {y : MethodName} {bytes : ByteArray} {ret : Option FieldType} {rm : Room} {As : List Value} {Pc : Array Value → State → Prop} {post : Int64 → Prop} (S : CallFix p m c cc nL s args kr_all own) (hM : Met l y (Cond.code y bytes maxL ret :: kr_all) rm Pc (vp_Sl post) 0 0 (fun _ => False)) (g : GoodIn kr_all (wsS own idx y (Cond.code y bytes maxL ret :: kr_all))) (hr0 : rm.cells = 0 ∧ rm.slots = 0)
    (hd : y.cls = own ∧ y.cls ≠ "java/lang/invoke/MethodHandle" ∧ y.cls ≠ "java/lang/invoke/VarHandle" ∧ (parseMethodDescriptor y.desc).map (fun d => d.parameters.length) = some n) (hR : rm.frames + 1 ≤ R.frames ∧ 8 + (maxL + 11) + rm.locals ≤ R.locals) (hp : PreS s H Pc As) (hn : As.length = n) (hsize : ls.size = nL) (hst : st0 = As.reverse ++ rest) (hW : (rest.map fun v => v.category).sum ≤ 8) (hdg : decode cc pc = .ok (.invokestatic idx, 3)) (hf : cells ≤ R.cells ∧ slots ≤ R.slots)
    (kk : ∀ r : Int64, post r → W p l e R s m args below meth c H locs cells slots Q (F0 m (pc + 3) ls (.long r :: rest))) : W p l e R s m args below meth c H locs cells slots Q (F0 m pc ls st0) :=
  vp_callSl (W.runS S hM (cwS n S.2.2.2.2 g rfl hr0.1 hr0.2 hd hR) hp rfl hn hsize hst (lv_room (pc := pc) (ls := ls) (m := m) (rest := st0) hW) hdg hf) kk
theorem kr_sV {own : String} {idx maxL nL n : Nat} {y : MethodName} {bytes : ByteArray} {ret : Option FieldType} {rm : Room} {As : List Value} {Pc : Array Value → State → Prop} {post : Unit → Prop} (S : CallFix p m c cc nL s args kr_all own) (hM : Met l y (Cond.code y bytes maxL ret :: kr_all) rm Pc (va_Sv post) 0 0 (fun _ => False)) (g : GoodIn kr_all (wsS own idx y (Cond.code y bytes maxL ret :: kr_all))) (hr0 : rm.cells = 0 ∧ rm.slots = 0)
    (hd : y.cls = own ∧ y.cls ≠ "java/lang/invoke/MethodHandle" ∧ y.cls ≠ "java/lang/invoke/VarHandle" ∧ (parseMethodDescriptor y.desc).map (fun d => d.parameters.length) = some n) (hR : rm.frames + 1 ≤ R.frames ∧ 8 + (maxL + 11) + rm.locals ≤ R.locals) (hp : PreS s H Pc As) (hn : As.length = n) (hsize : ls.size = nL) (hst : st0 = As.reverse ++ rest) (hW : (rest.map fun v => v.category).sum ≤ 8) (hdg : decode cc pc = .ok (.invokestatic idx, 3)) (hf : cells ≤ R.cells ∧ slots ≤ R.slots)
    (kk : W p l e R s m args below meth c H locs cells slots Q (F0 m (pc + 3) ls rest)) : W p l e R s m args below meth c H locs cells slots Q (F0 m pc ls st0) :=
  va_csv (W.runS S hM (cwS n S.2.2.2.2 g rfl hr0.1 hr0.2 hd hR) hp rfl hn hsize hst (lv_room (pc := pc) (ls := ls) (m := m) (rest := st0) hW) hdg hf) (fun _ => kk)
/-- the ends of methods that leave the heap as it is -/
theorem kr_eI {post : Int32 → Prop} {v : Int32} (hx : p.tables.exec = Jvm.exec) (hb : c.code = cc) (hr : meth.sig.returnType = some .int) (hlocks : meth.locks = false) (hH : H = s.heap) (hp : post v) (hdg : decode cc pc = .ok (.ireturn, 1)) : W p l e R s m args below meth c H [] cells slots (MQ below (vp_Si post) args s cells slots (fun _ => False)) (F0 m pc ls [.int v]) := W.iret hx hb hr (fun t ht _ => ⟨v, rfl, hp, ht.trans hH⟩) (fun q hq => absurd hq List.not_mem_nil) hdg hlocks
theorem kr_eZ {post : Int32 → Prop} {v : Int32} (hx : p.tables.exec = Jvm.exec) (hb : c.code = cc) (hr : meth.sig.returnType = some .boolean) (hlocks : meth.locks = false) (hH : H = s.heap) (hv : v = 0 ∨ v = 1) (hp : post v) (hdg : decode cc pc = .ok (.ireturn, 1)) : W p l e R s m args below meth c H [] cells slots (MQ below (vp_Si post) args s cells slots (fun _ => False)) (F0 m pc ls [.int v]) := W.zret (ty := .boolean) hx hb hr (by rcases hv with rfl | rfl <;> decide) (fun t ht _ => ⟨v, rfl, hp, ht.trans hH⟩) (fun q hq => absurd hq List.not_mem_nil) hdg hlocks
theorem kr_eV {post : Unit → Prop} (hx : p.tables.exec = Jvm.exec) (hb : c.code = cc) (hr : meth.sig.returnType = none) (hlocks : meth.locks = false) (hH : H = s.heap) (hp : post ()) (hdg : decode cc pc = .ok (.return_, 1)) : W p l e R s m args below meth c H [] cells slots (MQ below (va_Sv post) args s cells slots (fun _ => False)) (F0 m pc ls []) := W.vret hx hb hr (fun t ht _ => ⟨rfl, hp, ht.trans hH⟩) (fun q hq => absurd hq List.not_mem_nil) hdg hlocks
theorem kr_eL {post : Int64 → Prop} {v : Int64} (hx : p.tables.exec = Jvm.exec) (hb : c.code = cc) (hr : meth.sig.returnType = some .long) (hlocks : meth.locks = false) (hH : H = s.heap) (hp : post v) (hdg : decode cc pc = .ok (.lreturn, 1)) : W p l e R s m args below meth c H [] cells slots (MQ below (vp_Sl post) args s cells slots (fun _ => False)) (F0 m pc ls [.long v]) := W.lret hx hb hr (fun t ht _ => ⟨v, rfl, hp, ht.trans hH⟩) (fun q hq => absurd hq List.not_mem_nil) hdg hlocks
end KRW
