/-! methods that write -/
def kr_Rw (D : va_G) (ws : va_W) (cy : ClassId) (sz : Nat) (U : State) : Prop := U.heap.size = sz ∧ va_P D vwCl ws U.heap ∧ va_K D vwCl [(cy, .int)] U ∧ va_D (fun _ => True) ws
def kr_Rq (D : va_G) (ws : va_W) (cy : ClassId) (AA : Nat → Prop) (t : State) : Prop := va_P D vwCl ws t.heap ∧ va_K D vwCl [(cy, .int)] t ∧ va_D AA ws
theorem kr_blw {D : va_G} {ws : va_W} {cy : ClassId} {sz : Nat} {av : List Value} : FrameBlind (va_Pc av (kr_Rw D ws cy sz)) := fun a U g mk q => ⟨q.1, q.2.1, q.2.2.1, va_K.moved (u := U) (U := U.calling g mk a) (Vm.Alike.refl U.vm) q.2.2.2.1, q.2.2.2.2⟩
theorem kr_ofw {l : Launch} {y : MethodName} {cc : ByteArray} {maxL : Nat} {ret : Option FieldType} {rm : Room} {vs : List Value} {D : va_G} {ws : va_W} {cy : ClassId} {sz : Nat} {Qc : (Nat → Prop) → Array Value → State → Outcome → State → Prop} {mc ms : Nat} (hy : plainName y.cls = true) (hlen : (lg_sl vs).length ≤ maxL)
    (body : ∀ (p : Program) (e : Env) (s : State) (m : MethodId) (below : List Frame) (meth : Method) (c : Code) (ls : Array Slot) (AA : Nat → Prop), p.tables.exec = Jvm.exec → c.code = cc → c.maxLocals = maxL → meth.sig.returnType = ret → (∀ w ∈ kr_all, w.before vs.toArray s = true) → s.vm.findClass y.cls = some m.cls → meth.locks = false → meth.name = y.name → (∀ q : Nat, s.heap.size ≤ q → AA q) → va_P D vwCl ws s.heap → va_K D vwCl [(cy, .int)] s → va_D AA ws → va_S AA s.heap s.heap [] → lv_has ls maxL (lv_args 0 vs) → W p l e rm s m vs.toArray below meth c s.heap [] 0 0 (MQ below (Qc AA) vs.toArray s mc ms AA) (F0 m 0 ls [])) :
    Met l y (Cond.code y cc maxL ret :: kr_all) rm (va_Pc vs (kr_Rw D ws cy sz)) (Qc (va_A ws sz)) mc ms (va_A ws sz) := by
  refine Met.ofW (cc := cc) (maxL := maxL) (ret := ret) hy rfl ?_
  intro p e s m args below meth c s₁ B hml hv
  obtain ⟨rfl, hsz, hP, hK, hD0⟩ := hv
  subst hsz
  have hts := atoms_spec (ws := Cond.code y cc maxL ret :: kr_all) B.pre
  have hl := lv_entry vs (n := maxL) hlen
  rw [lg_entry_eq]
  exact body p e s m below meth c _ (va_A ws s.heap.size) B.exec B.bytes hml B.returns (fun w h => hts w (List.mem_cons_of_mem _ h)) (findClass_of_methodNamed B.named) B.notSynchronized (name_of_methodNamed B.named B.method).1 (fun q h => Or.inr h) hP hK (hD0.self (sz := s.heap.size)) va_S.rf hl
section KRWW
variable {p : Program} {l : Launch} {e : Env} {R : Room} {s : State} {m : MethodId} {args : Array Value} {below : List Frame} {meth : Method} {c : Code} {H : Heap} {locs : List Loc} {cells slots : Nat} {Q : State → Prop} {cc : ByteArray} {pc : Nat} {ls : Array Slot} {rest st st0 : List Value} {D : va_G} {ws : va_W} {cy : ClassId} {AA : Nat → Prop}
theorem kr_wI {post : Int32 → Prop} {v : Int32} (hx : p.tables.exec = Jvm.exec) (hb : c.code = cc) (hr : meth.sig.returnType = some .int) (hlocks : meth.locks = false) (hP : va_P D vwCl ws H) (hK : va_K D vwCl [(cy, .int)] s) (hD : va_D AA ws) (hS : va_S AA s.heap H locs) (hp : post v) (hdg : decode cc pc = .ok (.ireturn, 1)) : W p l e R s m args below meth c H locs cells slots (MQ below (va_Qi (fun r (_ : Unit) => post r) (fun _ t => kr_Rq D ws cy AA t) AA) args s cells slots AA) (F0 m pc ls [.int v]) := W.iret hx hb hr (fun t ht hW => ⟨⟨v, (), rfl, hp, by rw [ht]; exact hP, va_K.moved hW.alike hK, hD⟩, hS.F ht⟩) hS.2.2 hdg hlocks
theorem kr_wZ {post : Int32 → Prop} {v : Int32} (hx : p.tables.exec = Jvm.exec) (hb : c.code = cc) (hr : meth.sig.returnType = some .boolean) (hlocks : meth.locks = false) (hP : va_P D vwCl ws H) (hK : va_K D vwCl [(cy, .int)] s) (hD : va_D AA ws) (hS : va_S AA s.heap H locs) (hv : v = 0 ∨ v = 1) (hp : post v) (hdg : decode cc pc = .ok (.ireturn, 1)) : W p l e R s m args below meth c H locs cells slots (MQ below (va_Qi (fun r (_ : Unit) => post r) (fun _ t => kr_Rq D ws cy AA t) AA) args s cells slots AA) (F0 m pc ls [.int v]) := W.zret (ty := .boolean) hx hb hr (by rcases hv with rfl | rfl <;> decide) (fun t ht hW => ⟨⟨v, (), rfl, hp, by rw [ht]; exact hP, va_K.moved hW.alike hK, hD⟩, hS.F ht⟩) hS.2.2 hdg hlocks
theorem kr_wV {post : Prop} (hx : p.tables.exec = Jvm.exec) (hb : c.code = cc) (hr : meth.sig.returnType = none) (hlocks : meth.locks = false) (hP : va_P D vwCl ws H) (hK : va_K D vwCl [(cy, .int)] s) (hD : va_D AA ws) (hS : va_S AA s.heap H locs) (hp : post) (hdg : decode cc pc = .ok (.return_, 1)) : W p l e R s m args below meth c H locs cells slots (MQ below (va_Qv (fun (_ : Unit) => post) (fun _ t => kr_Rq D ws cy AA t) AA) args s cells slots AA) (F0 m pc ls []) := W.vret hx hb hr (fun t ht hW => ⟨⟨(), rfl, hp, by rw [ht]; exact hP, va_K.moved hW.alike hK, hD⟩, hS.F ht⟩) hS.2.2 hdg hlocks
theorem kr_wL {post : Int64 → Prop} {v : Int64} (hx : p.tables.exec = Jvm.exec) (hb : c.code = cc) (hr : meth.sig.returnType = some .long) (hlocks : meth.locks = false) (hP : va_P D vwCl ws H) (hK : va_K D vwCl [(cy, .int)] s) (hD : va_D AA ws) (hS : va_S AA s.heap H locs) (hp : post v) (hdg : decode cc pc = .ok (.lreturn, 1)) : W p l e R s m args below meth c H locs cells slots (MQ below (va_Ql (fun r (_ : Unit) => post r) (fun _ t => kr_Rq D ws cy AA t) AA) args s cells slots AA) (F0 m pc ls [.long v]) := W.lret hx hb hr (fun t ht hW => ⟨⟨v, (), rfl, hp, by rw [ht]; exact hP, va_K.moved hW.alike hK, hD⟩, hS.F ht⟩) hS.2.2 hdg hlocks
theorem kr_fr {H0 : Heap} (hD : va_D AA ws) (hS : va_S AA H0 H locs) (hA : ∀ q : Nat, H0.size ≤ q → AA q) : ∀ q, va_A ws H.size q → AA q := by
  intro q h
  rcases h with ⟨k, e, h⟩ | h
  · exact hD.2 k (q, e) h
  · exact hA q (Nat.le_trans hS.1 h)
/-- a call of a method of the same world that writes -/
theorem kr_wvI {V : Type} {own C : String} {idx maxL nL n mc ms : Nat} {y : MethodName} {bytes : ByteArray} {ret : Option FieldType} {rm : Room} {b : Addr} {As : List Value} {H0 : Heap} {wq : V → va_W} {post : Int32 → V → Prop} (S : CallFix p m c cc nL s args kr_all own) (hM : Met l y (Cond.code y bytes maxL ret :: kr_all) rm (va_Pc (.ref b :: As) (kr_Rw D ws cy H.size)) (va_Qi post (fun u t => kr_Rq D (wq u) cy (va_A ws H.size) t) (va_A ws H.size)) mc ms (va_A ws H.size)) (g : GoodIn kr_all (wsV own idx C y (Cond.code y bytes maxL ret :: kr_all))) (hr0 : rm.cells = mc ∧ rm.slots = ms)
    (hd : y.cls = C ∧ y.cls ≠ "java/lang/invoke/MethodHandle" ∧ y.cls ≠ "java/lang/invoke/VarHandle" ∧ (parseMethodDescriptor y.desc).map (fun d => d.parameters.length) = some n) (hR : rm.frames + 1 ≤ R.frames ∧ 8 + (maxL + 11) + rm.locals ≤ R.locals) (hrecv : ∃ cellB : Cell, H[b]? = some cellB ∧ cellB.vm.isStatics = false ∧ s.vm.findClass C = some cellB.cls) (hP : va_P D vwCl ws H) (hK : va_K D vwCl [(cy, .int)] s) (hD : va_D AA ws) (hS : va_S AA H0 H locs) (hA : ∀ q : Nat, H0.size ≤ q → AA q) (hn : As.length = n) (hsize : ls.size = nL) (hst : st0 = As.reverse ++ .ref b :: rest) (hW : (rest.map fun v => v.category).sum ≤ 8) (hdg : decode cc pc = .ok (.invokevirtual idx, 3)) (hf : cells + mc ≤ R.cells ∧ slots + ms ≤ R.slots)
    (kk : ∀ (r : Int32) (u : V) (H1 : Heap) (locs1 : List Loc), post r u → va_P D vwCl (wq u) H1 → va_D AA (wq u) → va_S AA H0 H1 locs1 → W p l e R s m args below meth c H1 locs1 (cells + mc) (slots + ms) Q (F0 m (pc + 3) ls (.int r :: rest))) : W p l e R s m args below meth c H locs cells slots Q (F0 m pc ls st0) :=
  va_calli (va_runV S hM (cwV n S.2.2.2.2 g rfl hr0.1 hr0.2 hd hR) ⟨kr_blw, hrecv, fun U hU hW => ⟨rfl, by rw [hU], by rw [hU]; exact hP, va_K.moved hW.alike hK, hD.weaken (fun _ _ _ _ => trivial)⟩⟩ rfl hn hsize hst (lv_room (pc := pc) (ls := ls) (m := m) (rest := st0) hW) hdg hf) hS (fun q _ h => kr_fr hD hS hA q h) (kr_fr hD hS hA)
    (fun r u t H1 locs1 ht hvm hp hB hz hk hS1 => kk r u H1 locs1 hp (by rw [← ht]; exact hB.1) (hB.2.2.weaken (fun _ _ _ h => kr_fr hD hS hA _ h)) hS1)
theorem kr_wvV {V : Type} {own C : String} {idx maxL nL n mc ms : Nat} {y : MethodName} {bytes : ByteArray} {ret : Option FieldType} {rm : Room} {b : Addr} {As : List Value} {H0 : Heap} {wq : V → va_W} {post : V → Prop} (S : CallFix p m c cc nL s args kr_all own) (hM : Met l y (Cond.code y bytes maxL ret :: kr_all) rm (va_Pc (.ref b :: As) (kr_Rw D ws cy H.size)) (va_Qv post (fun u t => kr_Rq D (wq u) cy (va_A ws H.size) t) (va_A ws H.size)) mc ms (va_A ws H.size)) (g : GoodIn kr_all (wsV own idx C y (Cond.code y bytes maxL ret :: kr_all))) (hr0 : rm.cells = mc ∧ rm.slots = ms)
    (hd : y.cls = C ∧ y.cls ≠ "java/lang/invoke/MethodHandle" ∧ y.cls ≠ "java/lang/invoke/VarHandle" ∧ (parseMethodDescriptor y.desc).map (fun d => d.parameters.length) = some n) (hR : rm.frames + 1 ≤ R.frames ∧ 8 + (maxL + 11) + rm.locals ≤ R.locals) (hrecv : ∃ cellB : Cell, H[b]? = some cellB ∧ cellB.vm.isStatics = false ∧ s.vm.findClass C = some cellB.cls) (hP : va_P D vwCl ws H) (hK : va_K D vwCl [(cy, .int)] s) (hD : va_D AA ws) (hS : va_S AA H0 H locs) (hA : ∀ q : Nat, H0.size ≤ q → AA q) (hn : As.length = n) (hsize : ls.size = nL) (hst : st0 = As.reverse ++ .ref b :: rest) (hW : (rest.map fun v => v.category).sum ≤ 8) (hdg : decode cc pc = .ok (.invokevirtual idx, 3)) (hf : cells + mc ≤ R.cells ∧ slots + ms ≤ R.slots)
    (kk : ∀ (u : V) (H1 : Heap) (locs1 : List Loc), post u → va_P D vwCl (wq u) H1 → va_D AA (wq u) → va_S AA H0 H1 locs1 → W p l e R s m args below meth c H1 locs1 (cells + mc) (slots + ms) Q (F0 m (pc + 3) ls rest)) : W p l e R s m args below meth c H locs cells slots Q (F0 m pc ls st0) :=
  va_callv (va_runV S hM (cwV n S.2.2.2.2 g rfl hr0.1 hr0.2 hd hR) ⟨kr_blw, hrecv, fun U hU hW => ⟨rfl, by rw [hU], by rw [hU]; exact hP, va_K.moved hW.alike hK, hD.weaken (fun _ _ _ _ => trivial)⟩⟩ rfl hn hsize hst (lv_room (pc := pc) (ls := ls) (m := m) (rest := st0) hW) hdg hf) hS (fun q _ h => kr_fr hD hS hA q h) (kr_fr hD hS hA)
    (fun u t H1 locs1 ht hvm hp hB hz hk hS1 => kk u H1 locs1 hp (by rw [← ht]; exact hB.1) (hB.2.2.weaken (fun _ _ _ h => kr_fr hD hS hA _ h)) hS1)
end KRWW
/-! the states behind the calls that write -/
theorem kr_upS (A : Nat → Nat → Int32) (i : Nat) (f : Nat → Int32) : kr_up A i f i = f := if_pos rfl
theorem kr_upN (A : Nat → Nat → Int32) {i j : Nat} (f : Nat → Int32) (h : j ≠ i) : kr_up A i f j = A j := if_neg h
theorem kr_up_sw (A : Nat → Nat → Int32) {i j : Nat} (f g : Nat → Int32) (h : i ≠ j) : kr_up (kr_up A i f) j g = kr_up (kr_up A j g) i f := by
  funext k
  unfold kr_up
  by_cases h1 : k = j
  · rw [if_pos h1, if_neg (by omega), if_pos h1]
  · rw [if_neg h1]
    by_cases h2 : k = i
    · rw [if_pos h2, if_pos h2]
    · rw [if_neg h2, if_neg h2, if_neg h1]
theorem kr_up_tw (A : Nat → Nat → Int32) (i : Nat) (f g : Nat → Int32) : kr_up (kr_up A i f) i g = kr_up A i g := by
  funext k
  unfold kr_up
  by_cases h1 : k = i
  · rw [if_pos h1, if_pos h1]
  · rw [if_neg h1, if_neg h1, if_neg h1]
theorem kr_up_id (A : Nat → Nat → Int32) (i : Nat) : kr_up A i (A i) = A := by
  funext k
  unfold kr_up
  by_cases h1 : k = i
  · rw [if_pos h1, h1]
  · rw [if_neg h1]
theorem kr_upd_tw (f : Nat → Int32) (k : Nat) (x y : Int32) : upd (upd f k x) k y = upd f k y := by
  funext j
  by_cases h : j = k
  · rw [h, pk_us, pk_us]
  · rw [pk_un h, pk_un h, pk_un h]
theorem kr_upd_id (f : Nat → Int32) (k : Nat) : upd f k (f k) = f := by
  funext j
  by_cases h : j = k
  · rw [h, pk_us]
  · rw [pk_un h]
def kr_aA (A : Nat → Nat → Int32) (N : Nat) (x y z : Int32) : Nat → Nat → Int32 := kr_up (kr_up (kr_up (kr_up (kr_up A 0 (upd (A 0) N x)) 1 (upd (A 1) N y)) 2 (upd (A 2) N z)) 3 (upd (A 3) N 0)) 4 (upd (A 4) N (-1))
def kr_sA (A : Nat → Nat → Int32) (k : Nat) (y z : Int32) : Nat → Nat → Int32 := kr_up (kr_up A 3 (upd (A 3) k y)) 4 (upd (A 4) k z)
def kr_jA (A : Nat → Nat → Int32) (q r k : Nat) (z : Int32) : Nat → Nat → Int32 := kr_up (kr_up (kr_up A 6 (upd (A 6) (5 * q + r) (nI k))) 7 (upd (A 7) (5 * q + r) z)) 5 (upd (A 5) q (nI (r + 1)))
def kr_tA (A : Nat → Nat → Int32) (L k : Nat) (z : Int32) : Nat → Nat → Int32 := kr_jA A L 0 k z
def kr_rA (A : Nat → Nat → Int32) (i k : Nat) : Nat → Nat → Int32 := kr_up A 6 (upd (A 6) i (nI k))
def kr_pr' (A : Nat → Nat → Int32) (q : Nat) (ld : Int32) : Nat := if kr_gw A q ld = -1 then kr_rc A q else kr_ix (kr_gw A q ld)
def kr_pf (A : Nat → Nat → Int32) (q : Nat) (ld : Int32) (i : Nat) : Nat → Int32 := fun j => if 5 * q ≤ j ∧ j < 5 * q + i then kr_fm A ld 16 (A 6 j) else A 6 j
def kr_pB (A : Nat → Nat → Int32) (q : Nat) (ld : Int32) (i : Nat) : Nat → Nat → Int32 := kr_up (kr_up A 5 (upd (A 5) q (nI (kr_pr' A q ld)))) 6 (kr_pf A q ld i)
def kr_pA (A : Nat → Nat → Int32) (q : Nat) (ld : Int32) : Nat → Nat → Int32 := kr_pB A q ld (kr_pr' A q ld)
section KRP
variable {N L : Nat} {A : Nat → Nat → Int32} {ld : Int32} {q : Nat}
theorem kr_pf_0 : kr_pf A q ld 0 = A 6 := by
  funext j; unfold kr_pf; rw [if_neg (by omega)]
theorem kr_pf_at (i : Nat) : kr_pf A q ld i (5 * q + i) = A 6 (5 * q + i) := by unfold kr_pf; rw [if_neg (by omega)]
theorem kr_pf_s (i : Nat) : upd (kr_pf A q ld i) (5 * q + i) (kr_fm A ld 16 (A 6 (5 * q + i))) = kr_pf A q ld (i + 1) := by
  funext j
  by_cases h : j = 5 * q + i
  · rw [h, pk_us]; unfold kr_pf; rw [if_pos (by omega)]
  · rw [pk_un h]; unfold kr_pf
    by_cases h2 : 5 * q ≤ j ∧ j < 5 * q + i
    · rw [if_pos h2, if_pos (by omega)]
    · rw [if_neg h2, if_neg (by omega)]
/-- where a place gives way, it is one of the line's, and all ahead of it hold; where none does, all hold -/
theorem kr_fg_sp : ∀ (n pl : Nat), pl + n < 2 ^ 31 → (kr_fg A q ld n pl = -1 ∧ ∀ j, pl ≤ j → j < pl + n → kr_ph A q ld j) ∨ ∃ g, pl ≤ g ∧ g < pl + n ∧ kr_fg A q ld n pl = nI g ∧ ∀ j, pl ≤ j → j < g → kr_ph A q ld j
  | 0, pl, _ => Or.inl ⟨rfl, fun j h1 h2 => by omega⟩
  | n + 1, pl, h => by
    by_cases hp : kr_ph A q ld pl
    · have e : kr_fg A q ld (n + 1) pl = kr_fg A q ld n (pl + 1) := if_pos hp
      rw [e]
      rcases kr_fg_sp n (pl + 1) (by omega) with ⟨h1, h2⟩ | ⟨g, h1, h2, h3, h4⟩
      · refine Or.inl ⟨h1, fun j h3 h4 => ?_⟩
        by_cases hj : j = pl
        · rw [hj]; exact hp
        · exact h2 j (by omega) (by omega)
      · refine Or.inr ⟨g, by omega, by omega, h3, fun j h5 h6 => ?_⟩
        by_cases hj : j = pl
        · rw [hj]; exact hp
        · exact h4 j (by omega) (by omega)
    · have e : kr_fg A q ld (n + 1) pl = nI pl := if_neg hp
      exact Or.inr ⟨pl, Nat.le_refl _, by omega, e, fun j h1 h2 => by omega⟩
theorem kr_pr_le (h : kr_rc A q ≤ 5) : kr_pr' A q ld ≤ kr_rc A q ∧ ∀ j, j < kr_pr' A q ld → kr_ph A q ld j := by
  unfold kr_pr'
  rcases kr_fg_sp (A := A) (q := q) (ld := ld) (kr_rc A q) 0 (by omega) with ⟨h1, h2⟩ | ⟨g, h1, h2, h3, h4⟩
  · rw [if_pos (show kr_gw A q ld = -1 from h1)]; exact ⟨Nat.le_refl _, fun j hj => h2 j (Nat.zero_le _) (by omega)⟩
  · have e : kr_gw A q ld = nI g := h3
    rw [e, if_neg (kr_kn_ne (by omega)), kr_ix_nI (by omega)]
    exact ⟨by omega, fun j hj => h4 j (Nat.zero_le _) hj⟩
theorem kr_gw_kn (h : kr_rc A q ≤ 5) : kr_gw A q ld = -1 ∨ ∃ g, g < kr_rc A q ∧ kr_gw A q ld = nI g := by
  rcases kr_fg_sp (A := A) (q := q) (ld := ld) (kr_rc A q) 0 (by omega) with ⟨h1, h2⟩ | ⟨g, h1, h2, h3, h4⟩
  · exact Or.inl h1
  · exact Or.inr ⟨g, by omega, h3⟩
theorem kr_fm_cg {A' : Nat → Nat → Int32} (h3 : A' 3 = A 3) (h4 : A' 4 = A 4) : ∀ (n : Nat) (x : Int32), kr_fm A' ld n x = kr_fm A ld n x
  | 0, _ => rfl
  | n + 1, x => by
    rw [kr_fm_e, kr_fm_e, h4, kr_fm_cg h3 h4 n]
    unfold kr_go
    rw [h3]
/-- the order of the rows, kept by the calls that write -/
theorem kr_wf_a (hw : kr_wf N L A) (hN : N < 16) {x y z : Int32} (hx : x = 0 ∨ x = 1) : kr_wf (N + 1) L (kr_aA A N x y z) := by
  obtain ⟨h1, h2, h3, h4⟩ := hw
  refine ⟨by omega, h2, fun k hk => ?_, fun l hl => ?_⟩
  · show (upd (A 0) N x k = 0 ∨ upd (A 0) N x k = 1) ∧ (upd (A 4) N (-1) k = -1 ∨ ∃ j, j < k ∧ upd (A 4) N (-1) k = nI j) ∧ (∃ q, q ≤ 999 ∧ upd (A 3) N 0 k = nI q) ∧ (upd (A 3) N 0 k = 0 → upd (A 4) N (-1) k = -1)
    by_cases e : k = N
    · subst e; rw [pk_us, pk_us, pk_us]; exact ⟨hx, Or.inl rfl, ⟨0, by omega, rfl⟩, fun _ => rfl⟩
    · rw [pk_un e, pk_un e, pk_un e]; exact h3 k (by omega)
  · obtain ⟨r, a1, a2, a3⟩ := h4 l hl
    refine ⟨r, a1, a2, fun pl hp => ?_⟩
    obtain ⟨k, b1, b2⟩ := a3 pl hp
    exact ⟨k, by omega, b2⟩
theorem kr_wf_s (hw : kr_wf N L A) {k : Nat} (hk : k < N) {y z : Int32} (hy : ¬ y < 1 ∧ ¬ 999 < y) (hz : z = -1 ∨ ∃ j, j < k ∧ z = nI j) : kr_wf N L (kr_sA A k y z) := by
  obtain ⟨h1, h2, h3, h4⟩ := hw
  refine ⟨h1, h2, fun i hi => ?_, h4⟩
  show (A 0 i = 0 ∨ A 0 i = 1) ∧ (upd (A 4) k z i = -1 ∨ ∃ j, j < i ∧ upd (A 4) k z i = nI j) ∧ (∃ q, q ≤ 999 ∧ upd (A 3) k y i = nI q) ∧ (upd (A 3) k y i = 0 → upd (A 4) k z i = -1)
  by_cases e : i = k
  · subst e; rw [pk_us, pk_us]
    have hy0 : ¬ y < 0 := fun h => hy.1 (by
      rw [Int32.lt_iff_toInt_lt] at h ⊢
      rw [show (0 : Int32).toInt = 0 by decide] at h
      rw [show (1 : Int32).toInt = 1 by decide]; omega)
    obtain ⟨q, q1, q2⟩ := nI_of2 (M := 999) (n := 999) (by decide) hy0 (Int32.not_lt.mp hy.2)
    refine ⟨(h3 i hi).1, hz, ⟨q, q1, q2⟩, fun h0 => ?_⟩
    rw [h0] at hy; exact absurd hy.1 (by decide)
  · rw [pk_un e, pk_un e]; exact h3 i hi
theorem kr_wf_r (hw : kr_wf N L A) {i k : Nat} (hk : k < N) : kr_wf N L (kr_rA A i k) := by
  obtain ⟨h1, h2, h3, h4⟩ := hw
  refine ⟨h1, h2, h3, fun l hl => ?_⟩
  obtain ⟨r, a1, a2, a3⟩ := h4 l hl
  refine ⟨r, a1, a2, fun pl hp => ?_⟩
  show ∃ j, j < N ∧ upd (A 6) i (nI k) (5 * l + pl) = nI j
  by_cases e : 5 * l + pl = i
  · rw [e, pk_us]; exact ⟨k, hk, rfl⟩
  · rw [pk_un e]; exact a3 pl hp
theorem kr_wf_j (hw : kr_wf N L A) {k r : Nat} (hk : k < N) (hr : r < 5) (hq : q < L) (er : A 5 q = nI r) {z : Int32} : kr_wf N L (kr_jA A q r k z) := by
  obtain ⟨h1, h2, h3, h4⟩ := hw
  refine ⟨h1, h2, h3, fun l hl => ?_⟩
  obtain ⟨r2, a1, a2, a3⟩ := h4 l hl
  show ∃ r', r' ≤ 5 ∧ upd (A 5) q (nI (r + 1)) l = nI r' ∧ ∀ pl, pl < r' → ∃ j, j < N ∧ upd (A 6) (5 * q + r) (nI k) (5 * l + pl) = nI j
  by_cases e : l = q
  · subst e
    rw [pk_us]
    have e2 : r2 = r := (nI_eq (by omega) (by omega)).mp (a2.symm.trans er)
    refine ⟨r + 1, by omega, rfl, fun pl hp => ?_⟩
    by_cases e3 : pl = r
    · rw [e3, pk_us]; exact ⟨k, hk, rfl⟩
    · rw [pk_un (by omega)]; exact a3 pl (by omega)
  · rw [pk_un e]
    refine ⟨r2, a1, a2, fun pl hp => ?_⟩
    rw [pk_un (by omega)]; exact a3 pl hp
theorem kr_wf_t (hw : kr_wf N L A) {k : Nat} (hk : k < N) (hL : L < 6) {z : Int32} : kr_wf N (L + 1) (kr_tA A L k z) := by
  obtain ⟨h1, h2, h3, h4⟩ := hw
  refine ⟨h1, by omega, h3, fun l hl => ?_⟩
  show ∃ r', r' ≤ 5 ∧ upd (A 5) L (nI (0 + 1)) l = nI r' ∧ ∀ pl, pl < r' → ∃ j, j < N ∧ upd (A 6) (5 * L + 0) (nI k) (5 * l + pl) = nI j
  by_cases e : l = L
  · subst e
    rw [pk_us]
    refine ⟨1, by omega, rfl, fun pl hp => ?_⟩
    rw [show pl = 0 by omega, pk_us]; exact ⟨k, hk, rfl⟩
  · obtain ⟨r2, a1, a2, a3⟩ := h4 l (by omega)
    rw [pk_un e]
    refine ⟨r2, a1, a2, fun pl hp => ?_⟩
    rw [pk_un (by omega)]; exact a3 pl hp
theorem kr_wf_p (hw : kr_wf N L A) (hq : q < L) {i : Nat} (hi : i ≤ kr_pr' A q ld) : kr_wf N L (kr_pB A q ld i) := by
  obtain ⟨hrc, er⟩ := hw.rc hq
  obtain ⟨p1, p2⟩ := kr_pr_le (ld := ld) hrc
  have hw0 := hw
  obtain ⟨h1, h2, h3, h4⟩ := hw
  refine ⟨h1, h2, h3, fun l hl => ?_⟩
  obtain ⟨r2, a1, a2, a3⟩ := h4 l hl
  show ∃ r', r' ≤ 5 ∧ upd (A 5) q (nI (kr_pr' A q ld)) l = nI r' ∧ ∀ pl, pl < r' → ∃ j, j < N ∧ kr_pf A q ld i (5 * l + pl) = nI j
  by_cases e : l = q
  · subst e
    rw [pk_us]
    refine ⟨kr_pr' A l ld, by omega, rfl, fun pl hp => ?_⟩
    unfold kr_pf
    by_cases hpi : pl < i
    · rw [if_pos (by omega)]
      exact kr_kn_of h1 (kr_fm_kn hw0 16 _ (hw0.tn hq (by omega))) (p2 pl hp).1
    · rw [if_neg (by omega)]
      exact hw0.tk hq (by omega)
  · rw [pk_un e]
    refine ⟨r2, a1, a2, fun pl hp => ?_⟩
    unfold kr_pf
    rw [if_neg (by omega)]; exact a3 pl hp
end KRP
section KRP2
variable {N L : Nat} {A : Nat → Nat → Int32} {ld : Int32} {q : Nat}
theorem kr_pB0n (h : kr_gw A q ld = -1) (er : A 5 q = nI (kr_rc A q)) : kr_pB A q ld 0 = A := by
  unfold kr_pB kr_pr'
  rw [if_pos h, ← er, kr_upd_id, kr_up_id, kr_pf_0, kr_up_id]
theorem kr_pB0y {g : Nat} (hg : g < 2 ^ 31) (h : kr_gw A q ld = nI g) : kr_pB A q ld 0 = kr_up A 5 (upd (A 5) q (nI g)) := by
  unfold kr_pB kr_pr'
  rw [h, if_neg (kr_kn_ne hg), kr_ix_nI hg, kr_pf_0]
  exact kr_up_id (kr_up A 5 (upd (A 5) q (nI g))) 6
theorem kr_pBs (i : Nat) : kr_up (kr_pB A q ld i) 6 (upd (kr_pB A q ld i 6) (5 * q + i) (kr_fm A ld 16 (A 6 (5 * q + i)))) = kr_pB A q ld (i + 1) := by
  rw [show kr_pB A q ld i 6 = kr_pf A q ld i from kr_upS _ 6 _, kr_pf_s]
  exact kr_up_tw _ 6 _ _
theorem kr_pB5 (i : Nat) : kr_pB A q ld i 5 q = nI (kr_pr' A q ld) := pk_us
theorem kr_pB6 (i : Nat) : kr_pB A q ld i 6 (5 * q + i) = A 6 (5 * q + i) := kr_pf_at i
theorem kr_pBf (i n : Nat) (x : Int32) : kr_fm (kr_pB A q ld i) ld n x = kr_fm A ld n x := kr_fm_cg (A := A) (A' := kr_pB A q ld i) (show kr_pB A q ld i 3 = A 3 from rfl) (show kr_pB A q ld i 4 = A 4 from rfl) n x
/-- tie, as the class does it and as the model does it -/
theorem kr_tA0 (L k : Nat) (z : Int32) : kr_jA (kr_up A 5 (upd (A 5) L 0)) L 0 k z = kr_tA A L k z := by
  unfold kr_tA kr_jA
  rw [show kr_up A 5 (upd (A 5) L 0) 6 = A 6 from rfl, show kr_up A 5 (upd (A 5) L 0) 7 = A 7 from rfl, show kr_up A 5 (upd (A 5) L 0) 5 = upd (A 5) L 0 from rfl, kr_upd_tw]
  rw [kr_up_sw A _ _ (show 5 ≠ 6 by decide), kr_up_sw (kr_up A 6 _) _ _ (show 5 ≠ 7 by decide), kr_up_tw]
end KRP2
