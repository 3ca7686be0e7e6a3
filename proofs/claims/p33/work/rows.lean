section
-- ===== PART A: goes FIRST, ahead of the names: the tables' words, and 'selects' of the private methods out of them =====
/-- a private method of a class that the tables say can be made, by its rows of tables_1 -/
def lw_okq (q : MethodName × Nat) : Prop := (q.1.cls ≠ "java/lang/invoke/MethodHandle" ∧ q.1.cls ≠ "java/lang/invoke/VarHandle") ∧ Cond.instantiable q.1.cls q.2 ∈ tables_1 ∧ Cond.privateMethod q.1 ∈ tables_1 ∧ Cond.instanceMethod q.1 ∈ tables_1
theorem lw_p0 : lw_okq (⟨"KnotRack", "checkPlace", "(II)V"⟩, 10) := ⟨⟨by decide +kernel, by decide +kernel⟩, List.mem_of_getElem? (i := 11) (by decide +kernel), List.mem_of_getElem? (i := 55) (by decide +kernel), List.mem_of_getElem? (i := 56) (by decide +kernel)⟩
theorem lw_p1 : lw_okq (⟨"KnotRack", "checkLine", "(I)V"⟩, 10) := ⟨⟨by decide +kernel, by decide +kernel⟩, List.mem_of_getElem? (i := 11) (by decide +kernel), List.mem_of_getElem? (i := 59) (by decide +kernel), List.mem_of_getElem? (i := 60) (by decide +kernel)⟩
theorem lw_p2 : lw_okq (⟨"java/lang/Throwable", "fillInStackTrace", "(I)Ljava/lang/Throwable;"⟩, 6) := ⟨⟨by decide +kernel, by decide +kernel⟩, List.mem_of_getElem? (i := 101) (by decide +kernel), List.mem_of_getElem? (i := 99) (by decide +kernel), List.mem_of_getElem? (i := 100) (by decide +kernel)⟩
theorem lw_p3 : lw_okq (⟨"KnotRack", "checkKnot", "(I)V"⟩, 10) := ⟨⟨by decide +kernel, by decide +kernel⟩, List.mem_of_getElem? (i := 11) (by decide +kernel), List.mem_of_getElem? (i := 132) (by decide +kernel), List.mem_of_getElem? (i := 133) (by decide +kernel)⟩
theorem lw_p4 : lw_okq (⟨"KnotRack", "isKnot", "(I)Z"⟩, 10) := ⟨⟨by decide +kernel, by decide +kernel⟩, List.mem_of_getElem? (i := 11) (by decide +kernel), List.mem_of_getElem? (i := 136) (by decide +kernel), List.mem_of_getElem? (i := 137) (by decide +kernel)⟩
theorem lw_p5 : lw_okq (⟨"KnotRack", "checkOfKind", "(II)V"⟩, 10) := ⟨⟨by decide +kernel, by decide +kernel⟩, List.mem_of_getElem? (i := 11) (by decide +kernel), List.mem_of_getElem? (i := 144) (by decide +kernel), List.mem_of_getElem? (i := 145) (by decide +kernel)⟩
theorem lw_p6 : lw_okq (⟨"KnotRack", "checkNotGone", "(I)V"⟩, 10) := ⟨⟨by decide +kernel, by decide +kernel⟩, List.mem_of_getElem? (i := 11) (by decide +kernel), List.mem_of_getElem? (i := 175) (by decide +kernel), List.mem_of_getElem? (i := 176) (by decide +kernel)⟩
theorem lw_p7 : lw_okq (⟨"KnotRack", "isGone", "(I)Z"⟩, 10) := ⟨⟨by decide +kernel, by decide +kernel⟩, List.mem_of_getElem? (i := 11) (by decide +kernel), List.mem_of_getElem? (i := 179) (by decide +kernel), List.mem_of_getElem? (i := 180) (by decide +kernel)⟩
theorem lw_p8 : lw_okq (⟨"KnotRack", "firstPlaceToGiveWay", "(II)I"⟩, 10) := ⟨⟨by decide +kernel, by decide +kernel⟩, List.mem_of_getElem? (i := 11) (by decide +kernel), List.mem_of_getElem? (i := 199) (by decide +kernel), List.mem_of_getElem? (i := 200) (by decide +kernel)⟩
theorem lw_p9 : lw_okq (⟨"KnotRack", "placeHolds", "(III)Z"⟩, 10) := ⟨⟨by decide +kernel, by decide +kernel⟩, List.mem_of_getElem? (i := 11) (by decide +kernel), List.mem_of_getElem? (i := 203) (by decide +kernel), List.mem_of_getElem? (i := 204) (by decide +kernel)⟩
theorem lw_p10 : lw_okq (⟨"KnotRack", "formUnder", "(II)I"⟩, 10) := ⟨⟨by decide +kernel, by decide +kernel⟩, List.mem_of_getElem? (i := 11) (by decide +kernel), List.mem_of_getElem? (i := 207) (by decide +kernel), List.mem_of_getElem? (i := 208) (by decide +kernel)⟩
theorem lw_p11 : lw_okq (⟨"KnotRack", "spillsUnder", "(II)Z"⟩, 10) := ⟨⟨by decide +kernel, by decide +kernel⟩, List.mem_of_getElem? (i := 11) (by decide +kernel), List.mem_of_getElem? (i := 211) (by decide +kernel), List.mem_of_getElem? (i := 212) (by decide +kernel)⟩
theorem lw_p12 : lw_okq (⟨"KnotRack", "strengthWith", "(III)I"⟩, 10) := ⟨⟨by decide +kernel, by decide +kernel⟩, List.mem_of_getElem? (i := 11) (by decide +kernel), List.mem_of_getElem? (i := 215) (by decide +kernel), List.mem_of_getElem? (i := 216) (by decide +kernel)⟩
theorem lw_p13 : lw_okq (⟨"KnotRack", "countOfKind", "(I)I"⟩, 10) := ⟨⟨by decide +kernel, by decide +kernel⟩, List.mem_of_getElem? (i := 11) (by decide +kernel), List.mem_of_getElem? (i := 234) (by decide +kernel), List.mem_of_getElem? (i := 235) (by decide +kernel)⟩
theorem lw_p14 : lw_okq (⟨"KnotRack", "rankInKind", "(I)I"⟩, 10) := ⟨⟨by decide +kernel, by decide +kernel⟩, List.mem_of_getElem? (i := 11) (by decide +kernel), List.mem_of_getElem? (i := 258) (by decide +kernel), List.mem_of_getElem? (i := 259) (by decide +kernel)⟩
theorem lw_p15 : lw_okq (⟨"KnotRack", "isAheadOf", "(II)Z"⟩, 10) := ⟨⟨by decide +kernel, by decide +kernel⟩, List.mem_of_getElem? (i := 11) (by decide +kernel), List.mem_of_getElem? (i := 262) (by decide +kernel), List.mem_of_getElem? (i := 263) (by decide +kernel)⟩
def lw_privs_1 : List (MethodName × Nat) := [(⟨"KnotRack", "checkPlace", "(II)V"⟩, 10), (⟨"KnotRack", "checkLine", "(I)V"⟩, 10), (⟨"java/lang/Throwable", "fillInStackTrace", "(I)Ljava/lang/Throwable;"⟩, 6), (⟨"KnotRack", "checkKnot", "(I)V"⟩, 10), (⟨"KnotRack", "isKnot", "(I)Z"⟩, 10), (⟨"KnotRack", "checkOfKind", "(II)V"⟩, 10), (⟨"KnotRack", "checkNotGone", "(I)V"⟩, 10), (⟨"KnotRack", "isGone", "(I)Z"⟩, 10), (⟨"KnotRack", "firstPlaceToGiveWay", "(II)I"⟩, 10), (⟨"KnotRack", "placeHolds", "(III)Z"⟩, 10), (⟨"KnotRack", "formUnder", "(II)I"⟩, 10), (⟨"KnotRack", "spillsUnder", "(II)Z"⟩, 10), (⟨"KnotRack", "strengthWith", "(III)I"⟩, 10), (⟨"KnotRack", "countOfKind", "(I)I"⟩, 10), (⟨"KnotRack", "rankInKind", "(I)I"⟩, 10), (⟨"KnotRack", "isAheadOf", "(II)Z"⟩, 10)]
theorem lw_r1 : ∀ q ∈ lw_privs_1, lw_okq q := List.forall_mem_cons.mpr ⟨lw_p0, List.forall_mem_cons.mpr ⟨lw_p1, List.forall_mem_cons.mpr ⟨lw_p2, List.forall_mem_cons.mpr ⟨lw_p3, List.forall_mem_cons.mpr ⟨lw_p4, List.forall_mem_cons.mpr ⟨lw_p5, List.forall_mem_cons.mpr ⟨lw_p6, List.forall_mem_cons.mpr ⟨lw_p7, List.forall_mem_cons.mpr ⟨lw_p8, List.forall_mem_cons.mpr ⟨lw_p9, List.forall_mem_cons.mpr ⟨lw_p10, List.forall_mem_cons.mpr ⟨lw_p11, List.forall_mem_cons.mpr ⟨lw_p12, List.forall_mem_cons.mpr ⟨lw_p13, List.forall_mem_cons.mpr ⟨lw_p14, List.forall_mem_cons.mpr ⟨lw_p15, fun _ h => absurd h List.not_mem_nil⟩⟩⟩⟩⟩⟩⟩⟩⟩⟩⟩⟩⟩⟩⟩⟩
theorem lw_p16 : lw_okq (⟨"KnotRack", "knotWithRank", "(II)I"⟩, 10) := ⟨⟨by decide +kernel, by decide +kernel⟩, List.mem_of_getElem? (i := 11) (by decide +kernel), List.mem_of_getElem? (i := 270) (by decide +kernel), List.mem_of_getElem? (i := 271) (by decide +kernel)⟩
theorem lw_p17 : lw_okq (⟨"KnotRack", "currentStrength", "(II)I"⟩, 10) := ⟨⟨by decide +kernel, by decide +kernel⟩, List.mem_of_getElem? (i := 11) (by decide +kernel), List.mem_of_getElem? (i := 306) (by decide +kernel), List.mem_of_getElem? (i := 307) (by decide +kernel)⟩
theorem lw_p18 : lw_okq (⟨"KnotRack", "loadHeldWith", "(III)I"⟩, 10) := ⟨⟨by decide +kernel, by decide +kernel⟩, List.mem_of_getElem? (i := 11) (by decide +kernel), List.mem_of_getElem? (i := 323) (by decide +kernel), List.mem_of_getElem? (i := 324) (by decide +kernel)⟩
theorem lw_p19 : lw_okq (⟨"KnotRack", "loadHeldAt", "(III)I"⟩, 10) := ⟨⟨by decide +kernel, by decide +kernel⟩, List.mem_of_getElem? (i := 11) (by decide +kernel), List.mem_of_getElem? (i := 327) (by decide +kernel), List.mem_of_getElem? (i := 328) (by decide +kernel)⟩
theorem lw_p20 : lw_okq (⟨"KnotRack", "digestWithKnot", "(JI)J"⟩, 10) := ⟨⟨by decide +kernel, by decide +kernel⟩, List.mem_of_getElem? (i := 11) (by decide +kernel), List.mem_of_getElem? (i := 354) (by decide +kernel), List.mem_of_getElem? (i := 355) (by decide +kernel)⟩
theorem lw_p21 : lw_okq (⟨"KnotRack", "digestWithLine", "(JI)J"⟩, 10) := ⟨⟨by decide +kernel, by decide +kernel⟩, List.mem_of_getElem? (i := 11) (by decide +kernel), List.mem_of_getElem? (i := 368) (by decide +kernel), List.mem_of_getElem? (i := 369) (by decide +kernel)⟩
theorem lw_p22 : lw_okq (⟨"KnotRackLaw$Sim", "worth", "(I)I"⟩, 3) := ⟨⟨by decide +kernel, by decide +kernel⟩, List.mem_of_getElem? (i := 411) (by decide +kernel), List.mem_of_getElem? (i := 409) (by decide +kernel), List.mem_of_getElem? (i := 410) (by decide +kernel)⟩
theorem lw_p23 : lw_okq (⟨"KnotRack", "appendRope", "(III)V"⟩, 10) := ⟨⟨by decide +kernel, by decide +kernel⟩, List.mem_of_getElem? (i := 11) (by decide +kernel), List.mem_of_getElem? (i := 469) (by decide +kernel), List.mem_of_getElem? (i := 470) (by decide +kernel)⟩
def lw_privs_2 : List (MethodName × Nat) := [(⟨"KnotRack", "knotWithRank", "(II)I"⟩, 10), (⟨"KnotRack", "currentStrength", "(II)I"⟩, 10), (⟨"KnotRack", "loadHeldWith", "(III)I"⟩, 10), (⟨"KnotRack", "loadHeldAt", "(III)I"⟩, 10), (⟨"KnotRack", "digestWithKnot", "(JI)J"⟩, 10), (⟨"KnotRack", "digestWithLine", "(JI)J"⟩, 10), (⟨"KnotRackLaw$Sim", "worth", "(I)I"⟩, 3), (⟨"KnotRack", "appendRope", "(III)V"⟩, 10)]
theorem lw_r2 : ∀ q ∈ lw_privs_2, lw_okq q := List.forall_mem_cons.mpr ⟨lw_p16, List.forall_mem_cons.mpr ⟨lw_p17, List.forall_mem_cons.mpr ⟨lw_p18, List.forall_mem_cons.mpr ⟨lw_p19, List.forall_mem_cons.mpr ⟨lw_p20, List.forall_mem_cons.mpr ⟨lw_p21, List.forall_mem_cons.mpr ⟨lw_p22, List.forall_mem_cons.mpr ⟨lw_p23, fun _ h => absurd h List.not_mem_nil⟩⟩⟩⟩⟩⟩⟩⟩
def lw_privs : List (MethodName × Nat) := lw_privs_1 ++ (lw_privs_2)
def lw_tbl : List Cond := k2_sels lw_privs ++ tables_1
theorem lw_privs_ok : ∀ q ∈ lw_privs, lw_okq q := by
  show ∀ q ∈ lw_privs_1 ++ (lw_privs_2), lw_okq q
  exact List.forall_mem_append.mpr ⟨lw_r1, lw_r2⟩
/-- the streams that the claim lets the run draw from -/
abbrev lw_cs : List Choice := [Jvm.Choice.named "NaN.bits"]
theorem lw_bits : nanBits ∈ lw_cs := by first | decide | exact List.mem_cons_self | simp [lw_cs, nanBits]
end
section
/-! ===== BEGIN words of one list among another's, by their places ===== -/
theorem goodIn_r {big : List Cond} (ws : List Cond) (ps : List Nat) (hp : ws = ps.filterMap (fun i => big[i]?)) (h : ws.all goodWord = true) : GoodIn big ws := by
  intro w hw
  have h1 := List.all_eq_true.mp h w hw
  rw [hp] at hw
  obtain ⟨i, -, hi⟩ := List.mem_filterMap.mp hw
  have hm : w ∈ big := by first | exact List.mem_of_getElem? hi | exact List.getElem?_mem hi
  exact ⟨hm, good_of_word h1⟩
theorem goodIn_app {big a b : List Cond} (ha : GoodIn big a) (hb : GoodIn big b) : GoodIn big (a ++ b) := fun w h => (List.mem_append.mp h).elim (ha w) (hb w)
theorem goodIn_ca {big a b : List Cond} {c : Cond} (ha : GoodIn big (c :: a)) (hb : GoodIn big b) : GoodIn big (c :: (a ++ b)) := fun w h => (List.mem_cons.mp h).elim (fun e => ha w (List.mem_cons.mpr (Or.inl e))) (fun h => (List.mem_append.mp h).elim (fun h => ha w (List.mem_cons.mpr (Or.inr h))) (hb w))
theorem goodIn_sub {big ws : List Cond} (hm : ∀ w ∈ ws, w ∈ big) (h : ws.all goodWord = true) : GoodIn big ws := fun w hw => ⟨hm w hw, good_of_word (List.all_eq_true.mp h w hw)⟩
/-! ===== END ===== -/

/-! ===== BEGIN exceptions that leave a method, and their catching by the caller (launches without stack traces) ===== -/
section VXA
/-! The laws vx_back, vx_callV, vx_callS, vx_callSW, vx_throw0, vx_throwS follow proofs of the library, with one case more: JvmDerived/Free/Laws.lean (Back.of_free), Shelf42/LK1.lean (callV, callS), Shelf/KitTraced.lean (throwNew0V, throwNewS). -/
/-- where a method has thrown q: the class by its name, the cell, what was written, the world -/
def vx_T (XC : String → State → State → Prop) (st : State) (q : Addr) (t : State) (mc ms : Nat) (free : Addr → Prop) : Prop :=
  ∃ (E : String) (ce : Cell) (L : List Loc), XC E st t ∧ t.heap[q]? = some ce ∧ ce.vm = .none ∧ st.vm.findClass E = some ce.cls ∧ st.WarmedH t.vm ∧ st.sameButNew ({ t with vm := st.vm } : State) L mc ms ∧ ∀ z ∈ L, free z.base
def vx_Q (Qc : Array Value → State → Outcome → State → Prop) (XC : String → State → State → Prop) (mc ms : Nat) (free : Addr → Prop) : Array Value → State → Outcome → State → Prop := fun a st o t =>
  (Qc a st o t ∧ ∃ L, FrameEnd st o t L mc ms ∧ ∀ q ∈ L, free q.base) ∨ ∃ q, o = .threw q ∧ vx_T XC st q t mc ms free
/-- a callee that returns or throws -/
def vx_Met (l : Launch) (y : MethodName) (ws : List Cond) (rm : Room) (Pc : Array Value → State → Prop) (Qc : Array Value → State → Outcome → State → Prop) (XC : String → State → State → Prop) (mc ms : Nat) (free : Addr → Prop) : Prop :=
  MetFree l y (headSpec ws rm) Pc (fun _ _ _ _ _ => True) (vx_Q Qc XC mc ms free)
def vx_Post (XC : String → State → State → Prop) (mc ms : Nat) (free : Addr → Prop) : Pt → Array Value → Addr → Pt → Prop := fun A a q B =>
  ∃ (g : JFrame) (mk : MethodId) (t : State) (L : List Loc) (E : String) (ce : Cell), B.U.heap = t.heap ∧ B.U.vm = t.vm ∧ XC E (A.U.calling g mk a) t ∧ t.heap[q]? = some ce ∧ ce.vm = .none ∧ A.U.vm.findClass E = some ce.cls ∧ B.locs = A.locs ++ L ∧ (∀ z ∈ L, free z.base) ∧ B.cells = A.cells + mc ∧ B.slots = A.slots + ms
def vx_Back (l : Launch) (R : Room) (p : Program) (e : Env) (below : List Frame) (s : State) (sargs : Array Value) (y : MethodName) (len W9 : Nat)
    (Pre : Pt → Array Value → Prop) (Post : Pt → Array Value → Option Value → Pt → Prop) (PostX : Pt → Array Value → Addr → Pt → Prop) : Prop :=
  ∀ (m : MethodId) (meth : Method) (c : Code) (A : Pt) (g : JFrame) (ig : Instr) (mk : MethodId) (a : Array Value),
    Stand p l e R s m sargs below meth c A.U A.locs A.cells A.slots → g.method = m → g.locals.size = c.maxLocals → decode c.code g.pc = .ok (ig, len) →
    2 * g.monitorRoom + (g.stack.map fun v => v.category).sum ≤ W9 → A.U.methodNamed? y = some mk → Pre A a →
    (∃ (v : Option Value) (B : Pt), Stand p l e R s m sargs below meth c B.U B.locs B.cells B.slots ∧ Post A a v B ∧
      Steps p.tables e below (doInvoke e (A.U.setTop g) [] mk a).1 (B.U.setTop { g with pc := g.pc + len, stack := v.toList ++ g.stack })) ∨
    (∃ (q : Addr) (B : Pt), Stand p l e R s m sargs below meth c B.U B.locs B.cells B.slots ∧ PostX A a q B ∧
      Steps p.tables e below (doInvoke e (A.U.setTop g) [] mk a).1 ((B.U.setTop g).pushFrame (.throwing q)))
section Payer
variable {l : Launch} {R : Room} {p : Program} {e : Env} {below : List Frame} {s : State} {sargs : Array Value} {y : MethodName} {len W9 : Nat}
theorem vx_back {ws : List Cond} {rm : Room} {Pc : Array Value → State → Prop} {Qc : Array Value → State → Outcome → State → Prop} {XC : String → State → State → Prop} {mc ms : Nat} {free : Addr → Prop} {bytes : ByteArray} {maxL : Nat} {ret : Option FieldType}
    (hM : vx_Met l y ws rm Pc Qc XC mc ms free) (hblind : FrameBlind Pc) (hrc : rm.cells = mc) (hrs : rm.slots = ms)
    (hframes : rm.frames + 1 ≤ R.frames) (hlocals : W9 + (maxL + 11) + rm.locals ≤ R.locals)
    (hws : ∀ w ∈ ws, ∀ a' U, s.WarmedH U.vm → w.before a' U = true) (hcode : Cond.code y bytes maxL ret ∈ ws) (hinit : ∀ a' U, s.WarmedH U.vm → (Cond.initialized y.cls).before a' U = true) :
    vx_Back l R p e below s sargs y len W9 (PreOf R mc ms Pc) (PostOf Qc mc ms free) (vx_Post XC mc ms free) := by
  intro m meth c A g ig mk a X hg hsize hdg hW hn hp
  have h1 : (headSpec ws rm).pre.before a A.U = true := atoms_intro fun w hw => hws w hw _ _ X.warmed
  have h2 : (Cond.code y bytes maxL ret).before a A.U = true := hws _ hcode _ _ X.warmed
  have h3 : (Cond.initialized y.cls).before a A.U = true := hinit _ _ X.warmed
  have h4 : A.cells + (headSpec ws rm).room.cells ≤ R.cells := by rw [show (headSpec ws rm).room.cells = mc from hrc]; exact hp.1
  have h5 : A.slots + (headSpec ws rm).room.slots ≤ R.slots := by rw [show (headSpec ws rm).room.slots = ms from hrs]; exact hp.2.1
  have hPc : Pc a (A.U.calling g mk a) := hblind _ _ _ _ hp.2.2
  obtain ⟨U, Ls, c0, s0⟩ := A
  dsimp only [Pt.U, Pt.locs, Pt.cells, Pt.slots] at h1 h2 h3 h4 h5 X hn hPc ⊢
  obtain ⟨methY, cY, hmY, hcY, -, hlY, -, -, -, -⟩ := Cond.code_spec hn h2
  obtain ⟨kY, hkY, -⟩ := className_of_methodNamed hn
  have hinitY : kY.init = .initialized := Cond.initialized_spec (findClass_of_methodNamed hn) hkY h3
  have h : At U g.method c below := by rw [hg]; exact X.here
  have hlocals9 : W9 + (maxL + 11) + (headSpec ws rm).room.locals ≤ R.locals := hlocals
  have happ : (headSpec ws rm).appliesLoose y e.platform (U.calling g mk a) = true :=
    Spec.appliesLoose_calling (g := g) h hdg hn hkY hinitY
      (X.room_calling (g := g) (R' := (headSpec ws rm).room) hsize hmY hcY hframes (by rw [hlY]; omega) h4 h5) h1
  obtain ⟨mid, hmid⟩ := h.above
  have hfr : (U.setTop g).frames = (.java g :: mid) ++ below := by rw [State.frames_setTop' g h.top, hmid]; rfl
  obtain ⟨o, s₂, hsteps, -, hend, hq⟩ := Steps.callFree hM p X.admits X.cas X.clock (acts := []) hfr happ hPc trivial
  have hq' : vx_Q Qc XC mc ms free a (U.calling g mk a) o s₂ := hq
  rw [State.frames_setTop' g h.top] at hend
  obtain ⟨g₀, hg0⟩ := Option.isSome_iff_exists.mp h.top
  obtain ⟨r, hr⟩ := State.topJava?_eq_some.mp hg0
  have hr' : (({ U with heap := s₂.heap, slotsUsed := s₂.slotsUsed } : State).setVm s₂.vm).frames = .java g₀ :: r := hr
  rcases hq' with ⟨hqc, L, hfe, hL⟩ | ⟨q, rfl, E, ce, L, hx, hce, hcv, hcl, hW₂, hsm, hL⟩
  · obtain ⟨⟨v, rfl⟩, hW₂, e2, q2, q3, q4, q5, q6⟩ := id hfe
    have e3 : s₂ = ({ (U.calling g mk a).setFrames s₂.frames with heap := s₂.heap, slotsUsed := s₂.slotsUsed } : State).setVm s₂.vm := by
      have : s₂ = ({ s₂ with vm := (U.calling g mk a).vm } : State).setVm s₂.vm := rfl
      rw [e2] at this
      exact this
    obtain ⟨c₂, i₂, len₂, hc₂, hd₂, hf₂⟩ := hend
    have hW' : U.WarmedH s₂.vm := hW₂
    have hcc : c₂ = c := by
      have h1 : s₂.code? g.method = U.code? g.method := by
        rw [State.code?_eq, State.code?_eq, hW'.alike.method?]
      exact Option.some.inj (hc₂.symm.trans (h1.trans h.code))
    subst hcc
    have hlen : len₂ = len := by rw [hdg] at hd₂; cases hd₂; rfl
    subst hlen
    have hs₂ : s₂ = (({ U with heap := s₂.heap, slotsUsed := s₂.slotsUsed } : State).setVm s₂.vm).setTop { g with pc := g.pc + len₂, stack := v.toList ++ g.stack } := by
      refine e3.trans ?_
      rw [hf₂, State.calling_eq h.top, State.setFrames_setFrames, State.setTop_of_frames _ hr', hr]
      rfl
    have hsame : U.sameButNew ({ U with heap := s₂.heap, slotsUsed := s₂.slotsUsed } : State) L mc ms := by
      refine ⟨?_, q2, q3, q4, q5, q6⟩
      obtain ⟨t, ht, -⟩ := State.frames_cons hr
      show ({ U with heap := s₂.heap, slotsUsed := s₂.slotsUsed } : State) = { U.setFrames U.frames with heap := s₂.heap, slotsUsed := s₂.slotsUsed }
      rw [State.setFrames_self ht]
    subst hg
    refine Or.inl ⟨v, ⟨(({ U with heap := s₂.heap, slotsUsed := s₂.slotsUsed } : State).setVm s₂.vm), Ls ++ L, c0 + mc, s0 + ms⟩,
      ⟨X.admits, X.cas, X.clock, X.frames, X.room, X.hears, X.method, X.code, (X.here.setHeapUsed s₂.heap s₂.slotsUsed).setVm hW'.alike, X.tail, State.WarmedH.trans X.warmed hW', X.limits, X.bytes, X.same.trans (hsame.setVm s.vm)⟩,
      ⟨g, mk, s₂, L, rfl, rfl, hqc, rfl, hL, rfl, rfl⟩, ?_⟩
    show Steps p.tables e below _ ((({ U with heap := s₂.heap, slotsUsed := s₂.slotsUsed } : State).setVm s₂.vm).setTop { g with pc := g.pc + len₂, stack := v.toList ++ g.stack })
    rw [← hs₂]
    exact hsteps
  · obtain ⟨e2, q2, q3, q4, q5, q6⟩ := id hsm
    have e3 : s₂ = ({ (U.calling g mk a).setFrames s₂.frames with heap := s₂.heap, slotsUsed := s₂.slotsUsed } : State).setVm s₂.vm := by
      have : s₂ = ({ s₂ with vm := (U.calling g mk a).vm } : State).setVm s₂.vm := rfl
      rw [e2] at this
      exact this
    have hf₂ : s₂.frames = .throwing q :: .java g :: U.frames.tail := hend
    have hW' : U.WarmedH s₂.vm := hW₂
    have hs₂ : s₂ = ((({ U with heap := s₂.heap, slotsUsed := s₂.slotsUsed } : State).setVm s₂.vm).setTop g).pushFrame (.throwing q) := by
      refine e3.trans ?_
      rw [hf₂, State.calling_eq h.top, State.setFrames_setFrames, State.pushFrame, State.frames_setTop _ hr', State.setTop_of_frames _ hr', State.setFrames_setFrames, hr]
      rfl
    have hsame : U.sameButNew ({ U with heap := s₂.heap, slotsUsed := s₂.slotsUsed } : State) L mc ms := by
      refine ⟨?_, q2, q3, q4, q5, q6⟩
      obtain ⟨t, ht, -⟩ := State.frames_cons hr
      show ({ U with heap := s₂.heap, slotsUsed := s₂.slotsUsed } : State) = { U.setFrames U.frames with heap := s₂.heap, slotsUsed := s₂.slotsUsed }
      rw [State.setFrames_self ht]
    subst hg
    refine Or.inr ⟨q, ⟨(({ U with heap := s₂.heap, slotsUsed := s₂.slotsUsed } : State).setVm s₂.vm), Ls ++ L, c0 + mc, s0 + ms⟩,
      ⟨X.admits, X.cas, X.clock, X.frames, X.room, X.hears, X.method, X.code, (X.here.setHeapUsed s₂.heap s₂.slotsUsed).setVm hW'.alike, X.tail, State.WarmedH.trans X.warmed hW', X.limits, X.bytes, X.same.trans (hsame.setVm s.vm)⟩,
      ⟨g, mk, s₂, L, E, ce, rfl, rfl, hx, hce, hcv, hcl, rfl, hL, rfl, rfl⟩, ?_⟩
    show Steps p.tables e below _ (((({ U with heap := s₂.heap, slotsUsed := s₂.slotsUsed } : State).setVm s₂.vm).setTop g).pushFrame (.throwing q))
    rw [← hs₂]
    exact hsteps
end Payer
section Calls
variable {p : Program} {l : Launch} {e : Env} {R : Room} {s : State} {m : MethodId} {args : Array Value} {below : List Frame} {meth : Method} {c : Code} {T : State} {locs : List Loc} {cells slots : Nat}
theorem vx_callV (X : Stand p l e R s m args below meth c T locs cells slots) (hexec : p.tables.exec = Jvm.exec) {own C : String} {index : Nat} {y : MethodName} {bytes : ByteArray} {maxL : Nat} {ret : Option FieldType}
    (hown : s.vm.findClass own = some m.cls) (hlink : (Cond.methodLink own index y).before args s = true) (hinst : (Cond.instanceMethod y).before args s = true) (hsel : (Cond.selects C y y).before args s = true)
    (hcode : (Cond.code y bytes maxL ret).before args s = true) (hy : y.cls ≠ "java/lang/invoke/MethodHandle" ∧ y.cls ≠ "java/lang/invoke/VarHandle")
    {W9 : Nat} {Pre : Pt → Array Value → Prop} {Post : Pt → Array Value → Option Value → Pt → Prop} {PostX : Pt → Array Value → Addr → Pt → Prop} (hK : vx_Back l R p e below s args y 3 W9 Pre Post PostX)
    {b : Addr} {cellB : Cell} (hcell : T.heap[b]? = some cellB) (hobj : cellB.vm.isStatics = false) (hcls : s.vm.findClass C = some cellB.cls)
    {g : JFrame} (hg : g.method = m) (hsize : g.locals.size = c.maxLocals) {argsL rest : List Value} (hlen : ∀ sig, parseMethodDescriptor y.desc = some sig → argsL.length = sig.parameters.length)
    (hstack : g.stack = argsL.reverse ++ .ref b :: rest) (hW : 2 * g.monitorRoom + (rest.map fun v => v.category).sum ≤ W9) (hdg : decode c.code g.pc = .ok (.invokevirtual index, 3))
    (hpre : ∀ vm₁, s.WarmedH vm₁ → Pre ⟨T.setVm vm₁, locs, cells, slots⟩ (Value.ref b :: argsL).toArray) :
    (∃ (v : Option Value) (vm₁ : Vm) (B : Pt), s.WarmedH vm₁ ∧ Stand p l e R s m args below meth c B.U B.locs B.cells B.slots ∧ Post ⟨T.setVm vm₁, locs, cells, slots⟩ (Value.ref b :: argsL).toArray v B ∧
      ∀ target, Steps p.tables e below (B.U.setTop { g with pc := g.pc + 3, stack := v.toList ++ rest }) target → Steps p.tables e below (T.setTop g) target) ∨
    (∃ (q : Addr) (vm₁ : Vm) (B : Pt), s.WarmedH vm₁ ∧ Stand p l e R s m args below meth c B.U B.locs B.cells B.slots ∧ PostX ⟨T.setVm vm₁, locs, cells, slots⟩ (Value.ref b :: argsL).toArray q B ∧
      Steps p.tables e below (T.setTop g) ((B.U.setTop { g with stack := rest }).pushFrame (.throwing q))) := by
  obtain ⟨mk, methM, hnamed, hmethM, hstM, habM⟩ := Cond.instanceMethod_spec hinst
  obtain ⟨methM', cM, hmethM', -, -, -, -, -, -, hsigM⟩ := Cond.code_spec hnamed hcode
  cases hmethM.symm.trans hmethM'
  obtain ⟨c2, r2, m2, q1, q2, q3, q4, kP, hkP, hkPi⟩ := Cond.selects_spec hsel
  cases hcls.symm.trans q1
  cases (State.methodFound?_of_named hnamed hy).symm.trans q2
  cases hnamed.symm.trans q3
  have hselP : selectMethod e.platform s.vm cellB.cls mk = .method mk := by rw [Launch.admits_selectMethod X.admits]; exact q4
  obtain ⟨vm₁, X₁, hstep₁⟩ := X.invokevirtual hexec hown hlink hnamed hmethM hstM hkP hkPi hy (a := b) (cell := cellB) hcell
    (fun z h => by rw [h] at hobj; cases hobj) hselP hmethM habM hkP hkPi (g := g) hg (argsL := argsL) (rest := rest) (hlen _ hsigM) hstack hdg
  rcases hK m meth c ⟨T.setVm vm₁, locs, cells, slots⟩ { g with stack := rest } (.invokevirtual index) mk (Value.ref b :: argsL).toArray X₁ hg hsize hdg hW (X₁.named hnamed) (hpre vm₁ X₁.warmed) with ⟨v, B, X', hpost, hsteps⟩ | ⟨q, B, X', hpost, hsteps⟩
  · exact Or.inl ⟨v, vm₁, B, X₁.warmed, X', hpost, fun target h => hstep₁ _ fun acts => by rw [doInvoke_state]; exact hsteps.trans h⟩
  · exact Or.inr ⟨q, vm₁, B, X₁.warmed, X', hpost, hstep₁ _ fun acts => by rw [doInvoke_state]; exact hsteps⟩
theorem vx_callS (X : Stand p l e R s m args below meth c T locs cells slots) (hexec : p.tables.exec = Jvm.exec) {own : String} {index : Nat} {y : MethodName} {bytes : ByteArray} {maxL : Nat} {ret : Option FieldType}
    (hown : s.vm.findClass own = some m.cls) (hlink : (Cond.methodLink own index y).before args s = true) (hstat : (Cond.static y).before args s = true) (hinit : (Cond.initialized y.cls).before args s = true)
    (hcode : (Cond.code y bytes maxL ret).before args s = true) (hy : y.cls ≠ "java/lang/invoke/MethodHandle" ∧ y.cls ≠ "java/lang/invoke/VarHandle")
    {W9 : Nat} {Pre : Pt → Array Value → Prop} {Post : Pt → Array Value → Option Value → Pt → Prop} {PostX : Pt → Array Value → Addr → Pt → Prop} (hK : vx_Back l R p e below s args y 3 W9 Pre Post PostX)
    {g : JFrame} (hg : g.method = m) (hsize : g.locals.size = c.maxLocals) {argsL rest : List Value} (hlen : ∀ sig, parseMethodDescriptor y.desc = some sig → argsL.length = sig.parameters.length)
    (hstack : g.stack = argsL.reverse ++ rest) (hW : 2 * g.monitorRoom + (rest.map fun v => v.category).sum ≤ W9) (hdg : decode c.code g.pc = .ok (.invokestatic index, 3))
    (hpre : ∀ vm₁, s.WarmedH vm₁ → Pre ⟨T.setVm vm₁, locs, cells, slots⟩ argsL.toArray) :
    (∃ (v : Option Value) (vm₁ : Vm) (B : Pt), s.WarmedH vm₁ ∧ Stand p l e R s m args below meth c B.U B.locs B.cells B.slots ∧ Post ⟨T.setVm vm₁, locs, cells, slots⟩ argsL.toArray v B ∧
      ∀ target, Steps p.tables e below (B.U.setTop { g with pc := g.pc + 3, stack := v.toList ++ rest }) target → Steps p.tables e below (T.setTop g) target) ∨
    (∃ (q : Addr) (vm₁ : Vm) (B : Pt), s.WarmedH vm₁ ∧ Stand p l e R s m args below meth c B.U B.locs B.cells B.slots ∧ PostX ⟨T.setVm vm₁, locs, cells, slots⟩ argsL.toArray q B ∧
      Steps p.tables e below (T.setTop g) ((B.U.setTop { g with stack := rest }).pushFrame (.throwing q))) := by
  obtain ⟨mk, hnamed⟩ := Cond.code_named hcode
  obtain ⟨methM, cM, hmethM, -, -, -, -, -, -, hsigM⟩ := Cond.code_spec hnamed hcode
  have hstatic : methM.isStatic = true := Cond.static_spec hnamed hmethM hstat
  obtain ⟨kP, hkP, -⟩ := className_of_methodNamed hnamed
  have hinitP : kP.init = .initialized := Cond.initialized_spec (findClass_of_methodNamed hnamed) hkP hinit
  obtain ⟨vm₁, X₁, hstep₁⟩ := X.invokestatic hexec hown hlink hnamed hmethM hstatic hkP hinitP hy (g := g) hg (argsL := argsL) (rest := rest) (hlen _ hsigM) hstack hdg
  rcases hK m meth c ⟨T.setVm vm₁, locs, cells, slots⟩ { g with stack := rest } (.invokestatic index) mk argsL.toArray X₁ hg hsize hdg hW (X₁.named hnamed) (hpre vm₁ X₁.warmed) with ⟨v, B, X', hpost, hsteps⟩ | ⟨q, B, X', hpost, hsteps⟩
  · exact Or.inl ⟨v, vm₁, B, X₁.warmed, X', hpost, fun target h => hstep₁ _ fun acts => by rw [doInvoke_state]; exact hsteps.trans h⟩
  · exact Or.inr ⟨q, vm₁, B, X₁.warmed, X', hpost, hstep₁ _ fun acts => by rw [doInvoke_state]; exact hsteps⟩
end Calls
theorem vx_cls {s : State} {T : State} {vm₁ : Vm} {E : String} {k : ClassId} (hW : s.WarmedH vm₁) (h : (T.setVm vm₁).vm.findClass E = some k) : s.vm.findClass E = some k := by
  have h1 : vm₁.findClass E = some k := h
  rw [hW.alike.findClass] at h1
  exact h1
/-- the method's frame g, with q thrown over it -/
def vx_W (p : Program) (l : Launch) (e : Env) (R : Room) (s : State) (m : MethodId) (args : Array Value) (below : List Frame) (meth : Method) (c : Code) (H : Heap) (locs : List Loc) (cells slots : Nat) (Q : State → Prop) (g : JFrame) (q : Addr) : Prop :=
  ∀ T : State, T.heap = H → Stand p l e R s m args below meth c T locs cells slots → ∃ t, Steps p.tables e below ((T.setTop g).pushFrame (.throwing q)) t ∧ Q t
def vx_Run (p : Program) (l : Launch) (e : Env) (R : Room) (s : State) (m : MethodId) (args : Array Value) (below : List Frame) (meth : Method) (c : Code) (H : Heap) (locs : List Loc) (cells slots mc ms : Nat) (g : JFrame) (rest : List Value) (Qa : State → Outcome → State → Prop) (XC : String → State → State → Prop) (free : Addr → Prop) : Prop :=
  ∀ T : State, T.heap = H → Stand p l e R s m args below meth c T locs cells slots →
    (∃ (v : Option Value) (st₀ t T' : State) (L : List Loc), st₀.heap = H ∧ Stand p l e R s m args below meth c T' (locs ++ L) (cells + mc) (slots + ms) ∧ (∀ q ∈ L, free q.base) ∧ T'.heap = t.heap ∧ T'.vm = t.vm ∧ Qa st₀ (.returned v) t ∧
      Goes p e below T g T' { g with pc := g.pc + 3, stack := v.toList ++ rest }) ∨
    (∃ (q : Addr) (st₀ t T' : State) (L : List Loc) (E : String) (ce : Cell), st₀.heap = H ∧ Stand p l e R s m args below meth c T' (locs ++ L) (cells + mc) (slots + ms) ∧ (∀ z ∈ L, free z.base) ∧ T'.heap = t.heap ∧ T'.vm = t.vm ∧ XC E st₀ t ∧ t.heap[q]? = some ce ∧ ce.vm = .none ∧ s.vm.findClass E = some ce.cls ∧
      Steps p.tables e below (T.setTop g) ((T'.setTop { g with stack := rest }).pushFrame (.throwing q)))
def vx_X {S : Type} (px : S → Prop) (B : String → S → State → Prop) (A : Nat → Prop) : String → State → State → Prop := fun E st t => ∃ u : S, px u ∧ B E u t ∧ va_F A st t
section Runs
variable {p : Program} {l : Launch} {e : Env} {R : Room} {s : State} {m : MethodId} {args : Array Value} {below : List Frame} {meth : Method} {c : Code} {H : Heap} {locs : List Loc} {cells slots : Nat}
variable {y : MethodName} {bytes cc : ByteArray} {maxL nL mc ms n index : Nat} {ret : Option FieldType} {ws : List Cond} {rm : Room} {Pc : Array Value → State → Prop} {Qc : Array Value → State → Outcome → State → Prop} {XC : String → State → State → Prop} {free : Addr → Prop} {Ts : List Cond} {own C : String} {b : Addr} {As rest : List Value} {g : JFrame}
theorem vx_callBack (cb : CallB R s args own index y bytes maxL ret ws rm mc ms n) (hM : vx_Met l y ws rm Pc Qc XC mc ms free) (hbl : FrameBlind Pc) : vx_Back l R p e below s args y 3 8 (PreOf R mc ms Pc) (PostOf Qc mc ms free) (vx_Post XC mc ms free) := by
  obtain ⟨hrc, hrs, hfr, hlo, hws, hcw, -, hini, -⟩ := cb
  exact vx_back (bytes := bytes) (maxL := maxL) (ret := ret) hM hbl hrc hrs hfr hlo hws hcw (fun a' U hW => word_at hW (Or.inl (by first | rfl | simp [Cond.onTables, Cond.keeps, Cond.steady])) hini)
theorem vx_runV (S : CallFix p m c cc nL s args Ts own) (hM : vx_Met l y ws rm Pc Qc XC mc ms free) (cw : CallW R s args own C index y bytes maxL ret ws rm mc ms n) (hp : PreV s H C b Pc As)
    (hg : g.method = m) (hn : As.length = n) (hsize : g.locals.size = nL) (hstack : g.stack = As.reverse ++ .ref b :: rest) (hW : 2 * g.monitorRoom + (rest.map fun v => v.category).sum ≤ 8) (hdg : decode cc g.pc = .ok (.invokevirtual index, 3)) (hf : cells + mc ≤ R.cells ∧ slots + ms ≤ R.slots) :
    vx_Run p l e R s m args below meth c H locs cells slots mc ms g rest (Qc (Value.ref b :: As).toArray) XC free := by
  have hK : vx_Back l R p e below s args y 3 8 (PreOf R mc ms Pc) (PostOf Qc mc ms free) (vx_Post XC mc ms free) := vx_callBack cw.1 hM hp.1
  obtain ⟨⟨-, -, -, -, -, -, hcode, -, hy, hlen, hl⟩, hin, hse⟩ := cw
  obtain ⟨hx, hb, hml, ho, -⟩ := S
  obtain ⟨-, ⟨cellB, hcB, hoB, hclB⟩, hPc⟩ := hp
  intro T hT X
  rcases vx_callV X hx (C := C) (bytes := bytes) (maxL := maxL) (ret := ret) ho hl hin hse hcode hy hK (by rw [hT]; exact hcB) hoB hclB hg (hsize.trans hml.symm) (argsL := As) (rest := rest) (fun sig h => hn.trans (hlen sig h)) hstack hW (by rw [hb]; exact hdg)
    (fun vm₁ hW₁ => ⟨hf.1, hf.2, hPc (T.setVm vm₁) hT hW₁⟩) with ⟨v, vm₁, ⟨U', l2, c2, s2⟩, hW₁, X', ⟨g', mk, t, L, e1, e2, hq, h1, hL, h2, h3⟩, st⟩ | ⟨q, vm₁, ⟨U', l2, c2, s2⟩, hW₁, X', ⟨g', mk, t, L, E, ce, e1, e2, hq, hce, hcv, hcl, h1, hL, h2, h3⟩, st⟩
  · dsimp only [Pt.U, Pt.locs, Pt.cells, Pt.slots] at X' e1 e2 h1 h2 h3 st
    subst h1; subst h2; subst h3
    exact Or.inl ⟨v, (T.setVm vm₁).calling g' mk (Value.ref b :: As).toArray, t, U', L, hT, X', hL, e1, e2, hq, st⟩
  · dsimp only [Pt.U, Pt.locs, Pt.cells, Pt.slots] at X' e1 e2 h1 h2 h3 st hcl
    subst h1; subst h2; subst h3
    exact Or.inr ⟨q, (T.setVm vm₁).calling g' mk (Value.ref b :: As).toArray, t, U', L, E, ce, hT, X', hL, e1, e2, hq, hce, hcv, vx_cls hW₁ hcl, st⟩
theorem vx_runS (S : CallFix p m c cc nL s args Ts own) (hM : vx_Met l y ws rm Pc Qc XC mc ms free) (cw : CallB R s args own index y bytes maxL ret ws rm mc ms n ∧ (Cond.static y).before args s = true) (hp : PreS s H Pc As)
    (hg : g.method = m) (hn : As.length = n) (hsize : g.locals.size = nL) (hstack : g.stack = As.reverse ++ rest) (hW : 2 * g.monitorRoom + (rest.map fun v => v.category).sum ≤ 8) (hdg : decode cc g.pc = .ok (.invokestatic index, 3)) (hf : cells + mc ≤ R.cells ∧ slots + ms ≤ R.slots) :
    vx_Run p l e R s m args below meth c H locs cells slots mc ms g rest (Qc As.toArray) XC free := by
  have hK : vx_Back l R p e below s args y 3 8 (PreOf R mc ms Pc) (PostOf Qc mc ms free) (vx_Post XC mc ms free) := vx_callBack cw.1 hM hp.1
  obtain ⟨⟨-, -, -, -, -, -, hcode, hini, hy, hlen, hl⟩, hstt⟩ := cw
  obtain ⟨hx, hb, hml, ho, -⟩ := S
  intro T hT X
  rcases vx_callS X hx (bytes := bytes) (maxL := maxL) (ret := ret) ho hl hstt hini hcode hy hK hg (hsize.trans hml.symm) (argsL := As) (rest := rest) (fun sig h => hn.trans (hlen sig h)) hstack hW (by rw [hb]; exact hdg)
    (fun vm₁ hW₁ => ⟨hf.1, hf.2, hp.2 (T.setVm vm₁) hT hW₁⟩) with ⟨v, vm₁, ⟨U', l2, c2, s2⟩, hW₁, X', ⟨g', mk, t, L, e1, e2, hq, h1, hL, h2, h3⟩, st⟩ | ⟨q, vm₁, ⟨U', l2, c2, s2⟩, hW₁, X', ⟨g', mk, t, L, E, ce, e1, e2, hq, hce, hcv, hcl, h1, hL, h2, h3⟩, st⟩
  · dsimp only [Pt.U, Pt.locs, Pt.cells, Pt.slots] at X' e1 e2 h1 h2 h3 st
    subst h1; subst h2; subst h3
    exact Or.inl ⟨v, (T.setVm vm₁).calling g' mk As.toArray, t, U', L, hT, X', hL, e1, e2, hq, st⟩
  · dsimp only [Pt.U, Pt.locs, Pt.cells, Pt.slots] at X' e1 e2 h1 h2 h3 st hcl
    subst h1; subst h2; subst h3
    exact Or.inr ⟨q, (T.setVm vm₁).calling g' mk As.toArray, t, U', L, E, ce, hT, X', hL, e1, e2, hq, hce, hcv, vx_cls hW₁ hcl, st⟩
end Runs
section Rows
variable {p : Program} {l : Launch} {e : Env} {R : Room} {s : State} {m : MethodId} {args : Array Value} {below : List Frame} {meth : Method} {c : Code} {H : Heap} {locs : List Loc} {cells slots : Nat} {Q : State → Prop}
variable {mc ms : Nat} {free : Addr → Prop} {A0 A1 : Nat → Prop} {H0 : Heap} {a : Array Value} {pc : Nat} {ls : Array Slot} {st0 rest : List Value}
theorem vx_keep {st₀ t T' : State} {L : List Loc} (h0 : st₀.heap = H) (e1 : T'.heap = t.heap) (hS : va_S A0 H0 H locs) (hA : ∀ q, q < H.size → A1 q → A0 q) (hf : ∀ q, free q → A0 q) (hL : ∀ q ∈ L, free q.base) (hF : va_F A1 st₀ t) :
    H.size ≤ T'.heap.size ∧ (∀ q : Nat, q < H.size → ¬ A1 q → T'.heap[q]? = H[q]?) ∧ va_S A0 H0 T'.heap (locs ++ L) := by
  obtain ⟨hz, hk⟩ := hF
  rw [h0] at hz hk
  exact ⟨by rw [e1]; exact hz, fun q h1 h2 => by rw [e1]; exact hk q h1 h2,
    ⟨Nat.le_trans hS.1 (by rw [e1]; exact hz), fun q h1 h2 => by rw [e1, hk q (Nat.lt_of_lt_of_le h1 hS.1) (fun z => h2 (hA q (Nat.lt_of_lt_of_le h1 hS.1) z))]; exact hS.2.1 q h1 h2, fun q hq => by
      rcases List.mem_append.mp hq with h | h
      · exact hS.2.2 q h
      · exact hf _ (hL q h)⟩⟩
theorem vx_calli {S SX : Type} {post : Int32 → S → Prop} {px : SX → Prop} {B : S → State → Prop} {BX : String → SX → State → Prop} {AX : Nat → Prop} (hr : vx_Run p l e R s m args below meth c H locs cells slots mc ms (F0 m pc ls st0) rest (va_Qi post B A1 a) (vx_X px BX AX) free) (hS : va_S A0 H0 H locs) (hA : ∀ q, q < H.size → A1 q → A0 q) (hf : ∀ q, free q → A0 q) (hAX : ∀ q, q < H.size → AX q → A0 q)
    (kx : ∀ (E : String) (ce : Cell) (q9 : Addr) (u : SX) (t : State) (H1 : Heap) (locs1 : List Loc), t.heap = H1 → s.vm.Alike t.vm → px u → BX E u t → H.size ≤ H1.size → (∀ q : Nat, q < H.size → ¬ AX q → H1[q]? = H[q]?) → va_S A0 H0 H1 locs1 → H1[q9]? = some ce → ce.vm = .none → s.vm.findClass E = some ce.cls → vx_W p l e R s m args below meth c H1 locs1 (cells + mc) (slots + ms) Q (F0 m pc ls rest) q9)
    (kk : ∀ (r : Int32) (u : S) (t : State) (H1 : Heap) (locs1 : List Loc), t.heap = H1 → s.vm.Alike t.vm → post r u → B u t → H.size ≤ H1.size → (∀ q : Nat, q < H.size → ¬ A1 q → H1[q]? = H[q]?) → va_S A0 H0 H1 locs1 → W p l e R s m args below meth c H1 locs1 (cells + mc) (slots + ms) Q (F0 m (pc + 3) ls (.int r :: rest))) : W p l e R s m args below meth c H locs cells slots Q (F0 m pc ls st0) := by
  intro T hT X
  rcases hr T hT X with ⟨v, st₀, t, T', L, h0, X', hL, e1, e2, ⟨⟨r, u, hv, hp, hb⟩, hF⟩, st⟩ | ⟨q, st₀, t, T', L, E, ce, h0, X', hL, e1, e2, ⟨u, hp, hb, hF⟩, hce, hcv, hcl, st⟩
  · cases hv
    obtain ⟨k1, k2, k3⟩ := vx_keep h0 e1 hS hA hf hL hF
    obtain ⟨t2, a1, b1⟩ := kk r u t T'.heap (locs ++ L) e1.symm (by rw [← e2]; exact X'.warmed.alike) hp hb k1 k2 k3 T' rfl X'
    exact ⟨t2, st t2 a1, b1⟩
  · obtain ⟨k1, k2, k3⟩ := vx_keep h0 e1 hS hAX hf hL hF
    obtain ⟨t2, a1, b1⟩ := kx E ce q u t T'.heap (locs ++ L) e1.symm (by rw [← e2]; exact X'.warmed.alike) hp hb k1 k2 k3 (by rw [e1]; exact hce) hcv hcl T' rfl X'
    exact ⟨t2, st.trans a1, b1⟩
theorem vx_calll {S SX : Type} {post : Int64 → S → Prop} {px : SX → Prop} {B : S → State → Prop} {BX : String → SX → State → Prop} {AX : Nat → Prop} (hr : vx_Run p l e R s m args below meth c H locs cells slots mc ms (F0 m pc ls st0) rest (va_Ql post B A1 a) (vx_X px BX AX) free) (hS : va_S A0 H0 H locs) (hA : ∀ q, q < H.size → A1 q → A0 q) (hf : ∀ q, free q → A0 q) (hAX : ∀ q, q < H.size → AX q → A0 q)
    (kx : ∀ (E : String) (ce : Cell) (q9 : Addr) (u : SX) (t : State) (H1 : Heap) (locs1 : List Loc), t.heap = H1 → s.vm.Alike t.vm → px u → BX E u t → H.size ≤ H1.size → (∀ q : Nat, q < H.size → ¬ AX q → H1[q]? = H[q]?) → va_S A0 H0 H1 locs1 → H1[q9]? = some ce → ce.vm = .none → s.vm.findClass E = some ce.cls → vx_W p l e R s m args below meth c H1 locs1 (cells + mc) (slots + ms) Q (F0 m pc ls rest) q9)
    (kk : ∀ (r : Int64) (u : S) (t : State) (H1 : Heap) (locs1 : List Loc), t.heap = H1 → s.vm.Alike t.vm → post r u → B u t → H.size ≤ H1.size → (∀ q : Nat, q < H.size → ¬ A1 q → H1[q]? = H[q]?) → va_S A0 H0 H1 locs1 → W p l e R s m args below meth c H1 locs1 (cells + mc) (slots + ms) Q (F0 m (pc + 3) ls (.long r :: rest))) : W p l e R s m args below meth c H locs cells slots Q (F0 m pc ls st0) := by
  intro T hT X
  rcases hr T hT X with ⟨v, st₀, t, T', L, h0, X', hL, e1, e2, ⟨⟨r, u, hv, hp, hb⟩, hF⟩, st⟩ | ⟨q, st₀, t, T', L, E, ce, h0, X', hL, e1, e2, ⟨u, hp, hb, hF⟩, hce, hcv, hcl, st⟩
  · cases hv
    obtain ⟨k1, k2, k3⟩ := vx_keep h0 e1 hS hA hf hL hF
    obtain ⟨t2, a1, b1⟩ := kk r u t T'.heap (locs ++ L) e1.symm (by rw [← e2]; exact X'.warmed.alike) hp hb k1 k2 k3 T' rfl X'
    exact ⟨t2, st t2 a1, b1⟩
  · obtain ⟨k1, k2, k3⟩ := vx_keep h0 e1 hS hAX hf hL hF
    obtain ⟨t2, a1, b1⟩ := kx E ce q u t T'.heap (locs ++ L) e1.symm (by rw [← e2]; exact X'.warmed.alike) hp hb k1 k2 k3 (by rw [e1]; exact hce) hcv hcl T' rfl X'
    exact ⟨t2, st.trans a1, b1⟩
theorem vx_callf {S SX : Type} {post : UInt32 → S → Prop} {px : SX → Prop} {B : S → State → Prop} {BX : String → SX → State → Prop} {AX : Nat → Prop} (hr : vx_Run p l e R s m args below meth c H locs cells slots mc ms (F0 m pc ls st0) rest (va_Qf post B A1 a) (vx_X px BX AX) free) (hS : va_S A0 H0 H locs) (hA : ∀ q, q < H.size → A1 q → A0 q) (hf : ∀ q, free q → A0 q) (hAX : ∀ q, q < H.size → AX q → A0 q)
    (kx : ∀ (E : String) (ce : Cell) (q9 : Addr) (u : SX) (t : State) (H1 : Heap) (locs1 : List Loc), t.heap = H1 → s.vm.Alike t.vm → px u → BX E u t → H.size ≤ H1.size → (∀ q : Nat, q < H.size → ¬ AX q → H1[q]? = H[q]?) → va_S A0 H0 H1 locs1 → H1[q9]? = some ce → ce.vm = .none → s.vm.findClass E = some ce.cls → vx_W p l e R s m args below meth c H1 locs1 (cells + mc) (slots + ms) Q (F0 m pc ls rest) q9)
    (kk : ∀ (r : UInt32) (u : S) (t : State) (H1 : Heap) (locs1 : List Loc), t.heap = H1 → s.vm.Alike t.vm → post r u → B u t → H.size ≤ H1.size → (∀ q : Nat, q < H.size → ¬ A1 q → H1[q]? = H[q]?) → va_S A0 H0 H1 locs1 → W p l e R s m args below meth c H1 locs1 (cells + mc) (slots + ms) Q (F0 m (pc + 3) ls (.float r :: rest))) : W p l e R s m args below meth c H locs cells slots Q (F0 m pc ls st0) := by
  intro T hT X
  rcases hr T hT X with ⟨v, st₀, t, T', L, h0, X', hL, e1, e2, ⟨⟨r, u, hv, hp, hb⟩, hF⟩, st⟩ | ⟨q, st₀, t, T', L, E, ce, h0, X', hL, e1, e2, ⟨u, hp, hb, hF⟩, hce, hcv, hcl, st⟩
  · cases hv
    obtain ⟨k1, k2, k3⟩ := vx_keep h0 e1 hS hA hf hL hF
    obtain ⟨t2, a1, b1⟩ := kk r u t T'.heap (locs ++ L) e1.symm (by rw [← e2]; exact X'.warmed.alike) hp hb k1 k2 k3 T' rfl X'
    exact ⟨t2, st t2 a1, b1⟩
  · obtain ⟨k1, k2, k3⟩ := vx_keep h0 e1 hS hAX hf hL hF
    obtain ⟨t2, a1, b1⟩ := kx E ce q u t T'.heap (locs ++ L) e1.symm (by rw [← e2]; exact X'.warmed.alike) hp hb k1 k2 k3 (by rw [e1]; exact hce) hcv hcl T' rfl X'
    exact ⟨t2, st.trans a1, b1⟩
theorem vx_calld {S SX : Type} {post : UInt64 → S → Prop} {px : SX → Prop} {B : S → State → Prop} {BX : String → SX → State → Prop} {AX : Nat → Prop} (hr : vx_Run p l e R s m args below meth c H locs cells slots mc ms (F0 m pc ls st0) rest (va_Qd post B A1 a) (vx_X px BX AX) free) (hS : va_S A0 H0 H locs) (hA : ∀ q, q < H.size → A1 q → A0 q) (hf : ∀ q, free q → A0 q) (hAX : ∀ q, q < H.size → AX q → A0 q)
    (kx : ∀ (E : String) (ce : Cell) (q9 : Addr) (u : SX) (t : State) (H1 : Heap) (locs1 : List Loc), t.heap = H1 → s.vm.Alike t.vm → px u → BX E u t → H.size ≤ H1.size → (∀ q : Nat, q < H.size → ¬ AX q → H1[q]? = H[q]?) → va_S A0 H0 H1 locs1 → H1[q9]? = some ce → ce.vm = .none → s.vm.findClass E = some ce.cls → vx_W p l e R s m args below meth c H1 locs1 (cells + mc) (slots + ms) Q (F0 m pc ls rest) q9)
    (kk : ∀ (r : UInt64) (u : S) (t : State) (H1 : Heap) (locs1 : List Loc), t.heap = H1 → s.vm.Alike t.vm → post r u → B u t → H.size ≤ H1.size → (∀ q : Nat, q < H.size → ¬ A1 q → H1[q]? = H[q]?) → va_S A0 H0 H1 locs1 → W p l e R s m args below meth c H1 locs1 (cells + mc) (slots + ms) Q (F0 m (pc + 3) ls (.double r :: rest))) : W p l e R s m args below meth c H locs cells slots Q (F0 m pc ls st0) := by
  intro T hT X
  rcases hr T hT X with ⟨v, st₀, t, T', L, h0, X', hL, e1, e2, ⟨⟨r, u, hv, hp, hb⟩, hF⟩, st⟩ | ⟨q, st₀, t, T', L, E, ce, h0, X', hL, e1, e2, ⟨u, hp, hb, hF⟩, hce, hcv, hcl, st⟩
  · cases hv
    obtain ⟨k1, k2, k3⟩ := vx_keep h0 e1 hS hA hf hL hF
    obtain ⟨t2, a1, b1⟩ := kk r u t T'.heap (locs ++ L) e1.symm (by rw [← e2]; exact X'.warmed.alike) hp hb k1 k2 k3 T' rfl X'
    exact ⟨t2, st t2 a1, b1⟩
  · obtain ⟨k1, k2, k3⟩ := vx_keep h0 e1 hS hAX hf hL hF
    obtain ⟨t2, a1, b1⟩ := kx E ce q u t T'.heap (locs ++ L) e1.symm (by rw [← e2]; exact X'.warmed.alike) hp hb k1 k2 k3 (by rw [e1]; exact hce) hcv hcl T' rfl X'
    exact ⟨t2, st.trans a1, b1⟩
theorem vx_callv {S SX : Type} {post : S → Prop} {px : SX → Prop} {B : S → State → Prop} {BX : String → SX → State → Prop} {AX : Nat → Prop} (hr : vx_Run p l e R s m args below meth c H locs cells slots mc ms (F0 m pc ls st0) rest (va_Qv post B A1 a) (vx_X px BX AX) free) (hS : va_S A0 H0 H locs) (hA : ∀ q, q < H.size → A1 q → A0 q) (hf : ∀ q, free q → A0 q) (hAX : ∀ q, q < H.size → AX q → A0 q)
    (kx : ∀ (E : String) (ce : Cell) (q9 : Addr) (u : SX) (t : State) (H1 : Heap) (locs1 : List Loc), t.heap = H1 → s.vm.Alike t.vm → px u → BX E u t → H.size ≤ H1.size → (∀ q : Nat, q < H.size → ¬ AX q → H1[q]? = H[q]?) → va_S A0 H0 H1 locs1 → H1[q9]? = some ce → ce.vm = .none → s.vm.findClass E = some ce.cls → vx_W p l e R s m args below meth c H1 locs1 (cells + mc) (slots + ms) Q (F0 m pc ls rest) q9)
    (kk : ∀ (u : S) (t : State) (H1 : Heap) (locs1 : List Loc), t.heap = H1 → s.vm.Alike t.vm → post u → B u t → H.size ≤ H1.size → (∀ q : Nat, q < H.size → ¬ A1 q → H1[q]? = H[q]?) → va_S A0 H0 H1 locs1 → W p l e R s m args below meth c H1 locs1 (cells + mc) (slots + ms) Q (F0 m (pc + 3) ls (rest))) : W p l e R s m args below meth c H locs cells slots Q (F0 m pc ls st0) := by
  intro T hT X
  rcases hr T hT X with ⟨v, st₀, t, T', L, h0, X', hL, e1, e2, ⟨⟨u, hv, hp, hb⟩, hF⟩, st⟩ | ⟨q, st₀, t, T', L, E, ce, h0, X', hL, e1, e2, ⟨u, hp, hb, hF⟩, hce, hcv, hcl, st⟩
  · cases hv
    obtain ⟨k1, k2, k3⟩ := vx_keep h0 e1 hS hA hf hL hF
    obtain ⟨t2, a1, b1⟩ := kk u t T'.heap (locs ++ L) e1.symm (by rw [← e2]; exact X'.warmed.alike) hp hb k1 k2 k3 T' rfl X'
    exact ⟨t2, st t2 a1, b1⟩
  · obtain ⟨k1, k2, k3⟩ := vx_keep h0 e1 hS hAX hf hL hF
    obtain ⟨t2, a1, b1⟩ := kx E ce q u t T'.heap (locs ++ L) e1.symm (by rw [← e2]; exact X'.warmed.alike) hp hb k1 k2 k3 (by rw [e1]; exact hce) hcv hcl T' rfl X'
    exact ⟨t2, st.trans a1, b1⟩
/-- caught by the row x of this method's table; the rows ahead don't take it -/
theorem vx_catch {own name : String} {E : String} {ce : Cell} {q : Addr} (hown : s.vm.findClass own = some m.cls) (pre : List ExceptionTableEntry) (x : ExceptionTableEntry) (suf : List ExceptionTableEntry) (hsplit : c.exceptionTable.toList = pre ++ x :: suf)
    (hpass : ∀ z ∈ pre, covers z pc = false ∨ (z.catchType ≠ 0 ∧ ∃ nm : String, (Cond.classLink own z.catchType nm).before args s = true ∧ va_Nc E nm s)) (hx : covers x pc = true) (h0 : x.catchType ≠ 0)
    (hlink : (Cond.classLink own x.catchType name).before args s = true) (hcast : (Cond.castable E name).before args s = true) (hcell : H[q]? = some ce) (hv : ce.vm = .none) (hcl : s.vm.findClass E = some ce.cls)
    (kk : W p l e R s m args below meth c H locs cells slots Q (F0 m x.handlerPc ls [.ref q])) : vx_W p l e R s m args below meth c H locs cells slots Q (F0 m pc ls rest) q := by
  intro T hT X
  have hpl : e.platform.magicAccessors = ({} : Platform).magicAccessors := by rw [X.admits.platform]
  obtain ⟨c3, c4, hc3, hc4, hasg⟩ := Cond.castable_spec hcast
  cases Option.some.inj (hc3.symm.trans hcl)
  obtain ⟨c5, hc5, hcl5⟩ := Cond.classLink_spec hown hlink e.platform hpl
  cases Option.some.inj (hc4.symm.trans hc5)
  obtain ⟨vm', X', st⟩ := X.thenCaughtThrough q (g := F0 m pc ls rest) rfl (Steps.refl _) (by rw [hT]; exact hcell) (by rw [hv]; rfl) (by obtain ⟨k9, h9, -⟩ := Vm.findClass_spec hcl; exact ⟨k9, h9⟩) pre x suf hsplit
    (fun z hz => by
      rcases hpass z hz with h | ⟨hz0, nm, hl1, hn1⟩
      · exact Or.inl h
      · obtain ⟨c6, hc6, hcl6⟩ := Cond.classLink_spec hown hl1 e.platform hpl
        obtain ⟨a8, b8, h1, h2, h3⟩ := hn1
        cases Option.some.inj (h1.symm.trans hcl)
        cases Option.some.inj (h2.symm.trans hc6)
        exact Or.inr ⟨hz0, _, hcl6, h3⟩) hx (Or.inr ⟨h0, c4, hcl5, hasg⟩)
  obtain ⟨t, a1, b1⟩ := kk (T.setVm vm') hT X'
  exact ⟨t, st.trans a1, b1⟩
end Rows
section Ends
variable {p : Program} {l : Launch} {e : Env} {R : Room} {s : State} {m : MethodId} {args : Array Value} {below : List Frame} {meth : Method} {c : Code} {H : Heap} {locs : List Loc} {cells slots : Nat} {Q : State → Prop}
variable {mc ms : Nat} {free : Addr → Prop} {A0 A1 : Nat → Prop} {H0 : Heap} {a : Array Value} {ls : Array Slot} {st0 rest : List Value}
variable {Qc : Array Value → State → Outcome → State → Prop} {XC : String → State → State → Prop}
/-- what a body that may throw owes at its end -/
def vx_MQ (below : List Frame) (Qc : Array Value → State → Outcome → State → Prop) (XC : String → State → State → Prop) (a : Array Value) (s : State) (mc ms : Nat) (free : Addr → Prop) : State → Prop := fun t =>
  ∃ o, t.status = .running ∧ Ended t below o ∧ vx_Q Qc XC mc ms free a s o t
theorem vx_ret {g : JFrame} {mc ms : Nat} (k : W p l e R s m args below meth c H locs cells slots (MQ below Qc args s mc ms free) g) : W p l e R s m args below meth c H locs cells slots (vx_MQ below Qc XC args s mc ms free) g := by
  intro T hT X
  obtain ⟨t, a1, o, b1, b2, b3, b4⟩ := k T hT X
  exact ⟨t, a1, o, b1, b2, Or.inl ⟨b3, b4⟩⟩
/-- not caught here: it goes on to the caller -/
theorem vx_widen {g : JFrame} {q : Addr} {k n : Nat} (h1 : cells ≤ k) (h2 : slots ≤ n) (kk : vx_W p l e R s m args below meth c H locs k n Q g q) : vx_W p l e R s m args below meth c H locs cells slots Q g q := fun T hT X => kk T hT (stand_widen X h1 h2)
theorem vx_out {pc : Nat} {E : String} {ce : Cell} {q : Addr} {mc ms : Nat} (hout : ∀ x ∈ c.exceptionTable.toList, covers x pc = false) (hlocks : meth.locks = false) (hcell : H[q]? = some ce) (hv : ce.vm = .none) (hcl : s.vm.findClass E = some ce.cls)
    (hx : ∀ t : State, t.heap = H → s.vm.Alike t.vm → XC E s t) (hf : ∀ z ∈ locs, free z.base) (hc : cells ≤ mc) (hs : slots ≤ ms) :
    vx_W p l e R s m args below meth c H locs cells slots (vx_MQ below Qc XC args s mc ms free) (F0 m pc ls rest) q := by
  intro T hT X
  obtain ⟨st1, hrun, hend, hW, hsm⟩ := X.leaveThrown q (g := F0 m pc ls rest) rfl rfl rfl hout hlocks
  have hcell9 : (T.setFrames (.throwing q :: below)).heap[q]? = some ce := by
    show T.heap[q]? = some ce
    rw [hT]; exact hcell
  exact ⟨_, st1, .threw q, hrun, hend, Or.inr ⟨q, rfl, E, ce, locs, hx _ hT hW.alike, hcell9, hv, hcl, hW, hsm.mono hc hs, hf⟩⟩
theorem vx_frame {U : State} {k n : Nat} (h : s.sameButNew ({ U with vm := s.vm } : State) locs k n) : s.heap.size ≤ U.heap.size ∧ ∀ q : Nat, q < s.heap.size → (∀ z ∈ locs, z.base ≠ q) → U.heap[q]? = s.heap[q]? := by
  obtain ⟨-, h2, -, -, -, h6⟩ := h
  refine ⟨h2, fun q hq hz => ?_⟩
  obtain ⟨c9, e1, e2, e3, e4⟩ := h6 q _ (Array.getElem?_eq_getElem hq)
  have hs : c9.slots = (s.heap[q]).slots := Array.ext_getElem? fun i => e4 i fun hm => hz _ hm rfl
  have h9 : c9 = s.heap[q] := by
    rw [hs] at e2
    exact e2
  have e5 : U.heap[q]? = some c9 := e1
  rw [e5, h9, Array.getElem?_eq_getElem hq]
/-- the words of a throw but the four that speak of the heap -/
def vx_no (w : Cond) : Bool := decide (w ≠ .isRef (.static Bundle.tN "UNASSIGNED_STACK" Bundle.steD)) && decide (w ≠ .isRef (.static Bundle.tN "SUPPRESSED_SENTINEL" Bundle.listD)) && decide (w ≠ .laysStatic Bundle.tN "UNASSIGNED_STACK" Bundle.steD) && decide (w ≠ .laysStatic Bundle.tN "SUPPRESSED_SENTINEL" Bundle.listD)
def vx_at0 (own : String) (ic : Nat) (X : String) (names : List String) : List Cond := (Bundle.ownAtoms0 own ic X names).filter vx_no
def vx_atS (own : String) (ic : Nat) (X : String) (names : List String) : List Cond := (Bundle.ownAtoms own ic X names).filter vx_no
/-- a word that the tables alone decide, or a good one -/
def vx_ot (w : Cond) : Bool := w.onTables || goodWord w
theorem vx_ot_at {args a' : Array Value} {s U : State} {w : Cond} (hW : s.WarmedH U.vm) (hvm : s.vm = U.vm) (hg : vx_ot w = true) (h : w.before args s = true) : w.before a' U = true := by
  simp only [vx_ot, Bool.or_eq_true] at hg
  rcases hg with hg | hg
  · exact va_tabs hg hvm h
  · exact word_at hW (good_of_word hg) h
/-- a list's words: the good ones out of the method's own list, the others by premises of their own -/
theorem vx_hat {args : Array Value} {s : State} {L B : List Cond} (h1 : ∀ w ∈ L.filter goodWord, w.before args s = true) (h2 : ∀ w ∈ L.filter (fun w => !goodWord w), w ∈ B) (h3 : ∀ w ∈ B, w.before args s = true) : ∀ w ∈ L, w.before args s = true := by
  intro w hw
  by_cases g : goodWord w = true
  · exact h1 w (List.mem_filter.mpr ⟨hw, g⟩)
  · refine h3 w (h2 w (List.mem_filter.mpr ⟨hw, ?_⟩))
    show (!goodWord w) = true
    cases hgw : goodWord w
    · rfl
    · exact absurd hgw g
theorem vx_c {args : Array Value} {s : State} {w : Cond} {B : List Cond} (h : w.before args s = true) (t : ∀ w ∈ B, w.before args s = true) : ∀ w' ∈ w :: B, w'.before args s = true := fun w' h' => (List.mem_cons.mp h').elim (fun e => by rw [e]; exact h) (t w')
theorem vx_n {args : Array Value} {s : State} : ∀ w ∈ ([] : List Cond), w.before args s = true := fun _ h => nomatch h
theorem vx_own {args : Array Value} {s : State} {L : List Cond} (h1 : ∀ w ∈ L.filter vx_no, w.before args s = true)
    (hU : (Cond.isRef (.static Bundle.tN "UNASSIGNED_STACK" Bundle.steD)).before args s = true) (hN : (Cond.isRef (.static Bundle.tN "SUPPRESSED_SENTINEL" Bundle.listD)).before args s = true)
    (lU : (Cond.laysStatic Bundle.tN "UNASSIGNED_STACK" Bundle.steD).before args s = true) (lN : (Cond.laysStatic Bundle.tN "SUPPRESSED_SENTINEL" Bundle.listD).before args s = true) : ∀ w ∈ L, w.before args s = true := by
  intro w hw
  by_cases e1 : w = .isRef (.static Bundle.tN "UNASSIGNED_STACK" Bundle.steD)
  · rw [e1]; exact hU
  · by_cases e2 : w = .isRef (.static Bundle.tN "SUPPRESSED_SENTINEL" Bundle.listD)
    · rw [e2]; exact hN
    · by_cases e3 : w = .laysStatic Bundle.tN "UNASSIGNED_STACK" Bundle.steD
      · rw [e3]; exact lU
      · by_cases e4 : w = .laysStatic Bundle.tN "SUPPRESSED_SENTINEL" Bundle.listD
        · rw [e4]; exact lN
        · exact h1 w (List.mem_filter.mpr ⟨hw, by unfold vx_no; rw [decide_eq_true e1, decide_eq_true e2, decide_eq_true e3, decide_eq_true e4]; rfl⟩)
/-- where a static field lies, its class's statics cell in H -/
def vx_L (C n d : String) (A : Nat → Prop) (U : State) (H : Heap) : Prop := ∃ (c : ClassId) (k : Class) (i : Nat) (f : Field) (a : Nat) (cell : Cell), U.vm.findClass C = some c ∧ U.fieldFound? C n d = some (c, k, i, f) ∧ f.isStatic = true ∧ k.statics = some a ∧ H[a]? = some cell ∧ cell.vm.isStatics = true ∧ cell.cls = c ∧ f.slot < cell.slots.size ∧ k.staticTypes[f.slot]? = some f.type ∧ ¬ A a
theorem vx_L.moved {C n d : String} {A : Nat → Prop} {u U : State} {H : Heap} (hvm : u.vm.Alike U.vm) (h : vx_L C n d A u H) : vx_L C n d A U H := by
  obtain ⟨c, k, i, f, a, cell, h1, h2, h3, h4, h5, h6, h7, h8, h9, h10⟩ := h
  obtain ⟨k', hi', he⟩ := State.fieldFound?_setVm hvm h2
  exact ⟨c, k', i, f, a, cell, by rw [hvm.findClass]; exact h1, hi', h3, by rw [he]; exact h4, h5, h6, h7, h8, by rw [he]; exact h9, h10⟩
theorem vx_L.kept {C n d : String} {A : Nat → Prop} {U : State} {H H1 : Heap} (h : vx_L C n d A U H) (hq : ∀ a : Nat, a < H.size → ¬ A a → H1[a]? = H[a]?) : vx_L C n d A U H1 := by
  obtain ⟨c, k, i, f, a, cell, h1, h2, h3, h4, h5, h6, h7, h8, h9, h10⟩ := h
  exact ⟨c, k, i, f, a, cell, h1, h2, h3, h4, by rw [hq a (Array.getElem?_eq_some_iff.mp h5).1 h10]; exact h5, h6, h7, h8, h9, h10⟩
theorem vx_L.narrow {C n d : String} {A B : Nat → Prop} {U : State} {H : Heap} (h : vx_L C n d A U H) (hAB : ∀ q, B q → A q) : vx_L C n d B U H := by
  obtain ⟨c, k, i, f, a, cell, h1, h2, h3, h4, h5, h6, h7, h8, h9, h10⟩ := h
  exact ⟨c, k, i, f, a, cell, h1, h2, h3, h4, h5, h6, h7, h8, h9, fun z => h10 (hAB _ z)⟩
theorem vx_L.word {C n d : String} {A : Nat → Prop} {s : State} {args : Array Value} (h : vx_L C n d A s s.heap) : (Cond.laysStatic C n d).before args s = true := by
  obtain ⟨c, k, i, f, a, cell, h1, h2, h3, h4, h5, h6, h7, h8, h9, -⟩ := h
  show (Cond.laysStatic C n d).holds args s none s [] = true
  exact Cond.laysStatic_of h1 h2 h3 h4 h5 h6 h7 h8 h9
/-- .. and what it holds: null or some reference -/
def vx_Zq (C n d : String) (A : Nat → Prop) (U : State) (H : Heap) : Prop := va_Zq C n d A U H ∧ vx_L C n d A U H
theorem vx_Zq.moved {C n d : String} {A : Nat → Prop} {u U : State} {H : Heap} (hvm : u.vm.Alike U.vm) (h : vx_Zq C n d A u H) : vx_Zq C n d A U H := ⟨va_Zq.moved hvm h.1, vx_L.moved hvm h.2⟩
theorem vx_Zq.kept {C n d : String} {A : Nat → Prop} {U : State} {H H1 : Heap} (h : vx_Zq C n d A U H) (hq : ∀ a : Nat, a < H.size → ¬ A a → H1[a]? = H[a]?) : vx_Zq C n d A U H1 := ⟨va_Zq.kept h.1 hq, vx_L.kept h.2 hq⟩
theorem vx_Zq.narrow {C n d : String} {A B : Nat → Prop} {U : State} {H : Heap} (h : vx_Zq C n d A U H) (hAB : ∀ q, B q → A q) : vx_Zq C n d B U H := ⟨va_Zq.narrow h.1 hAB, vx_L.narrow h.2 hAB⟩
theorem vx_Zqof {args : Array Value} {s : State} {C n d : String} {A : Nat → Prop} (hl : (Cond.laysStatic C n d).before args s = true) (hini : (Cond.initialized C).before args s = true) (h : (Cond.isRef (.static C n d)).before args s = true) (hA : ∀ a : Nat, a < s.heap.size → ¬ A a) : vx_Zq C n d A s s.heap := by
  refine ⟨va_Zqof hl hini h hA, ?_⟩
  obtain ⟨c, k, i, f, a, cell, h1, h2, h3, h4, h5, h6, h7, h8, h9⟩ := Cond.laysStatic_spec hl
  exact ⟨c, k, i, f, a, cell, h1, h2, h3, h4, h5, h6, h7, h8, h9, hA a (Array.getElem?_eq_some_iff.mp h5).1⟩
theorem vx_isRef {C n d : String} {v : Value} {A : Nat → Prop} {s : State} {args : Array Value} (h : va_Z C n d v A s s.heap) (hv : v.isRef = true) : (Cond.isRef (.static C n d)).before args s = true := by
  obtain ⟨cf, kf, fi, f, a, cell, h1, h2, h3, h4, h5, h6, h7, -⟩ := h
  have he : (Term.static C n d).eval args s none [] s = some v := by
    simp [Term.eval, State.fieldNamed?, h1, h2, h4, h5, h6, h7]
  simp only [Cond.before, Cond.holds, Cond.value, he]
  cases v <;> simp_all [Value.isRef]
theorem vx_isRefq {C n d : String} {A : Nat → Prop} {s : State} {args : Array Value} (h : va_Zq C n d A s s.heap) : (Cond.isRef (.static C n d)).before args s = true := by
  rcases h with h | ⟨t, h⟩
  · exact vx_isRef h rfl
  · exact vx_isRef h rfl
/-- the same frame, seen from here: as if the method were called anew in this heap -/
theorem vx_rebase {T : State} (X : Stand p l e R s m args below meth c T locs cells slots) {R' : Room} (hf : R'.frames ≤ R.frames) (hl : R'.locals ≤ R.locals) (hc : cells + R'.cells ≤ R.cells) (hs : slots + R'.slots ≤ R.slots) :
    Stand p l e R' ((T.setVm s.vm).setFrames (.invoking m args :: below)) m args below meth c T [] 0 0 := by
  have htop : (T.setVm s.vm).topJava?.isSome := X.here.top
  have hF : ((T.setVm s.vm).setFrames (.invoking m args :: below)).frames = .invoking m args :: below := State.frames_setFrames _ (State.cur_lt_of_top htop)
  obtain ⟨g₀, hg0⟩ := Option.isSome_iff_exists.mp htop
  obtain ⟨r, hr⟩ := State.topJava?_eq_some.mp hg0
  have hl9 : e.platform.stackLimits (T.setVm s.vm).me = e.platform.stackLimits s.me := X.limits
  have hb9 : (T.setVm s.vm).me.stackBytes = s.me.stackBytes := X.bytes
  refine ⟨X.admits, X.cas, X.clock, hF, ?_, X.hears, X.method, X.code, X.here, X.tail, X.warmed, ?_, ?_, ?_⟩
  · have h := X.room
    have hU : ((T.setVm s.vm).setFrames (.invoking m args :: below)).localsInUse = s.localsInUse := by
      rw [State.localsInUse_invoking hF (meth := meth) (c := c) X.method X.code, State.localsInUse_invoking X.frames X.method X.code]
    simp only [State.hasRoom, Bool.and_eq_true, decide_eq_true_eq] at h ⊢
    obtain ⟨⟨⟨⟨h1, h2, h3, h4, h5, h6⟩, h7⟩, h8⟩, h9⟩ := h
    rw [X.frames, List.length_cons] at h2 h3
    have q1 := X.heapSize
    have q2 := X.used
    simp only [hF, hU, List.length_cons, State.stackLimits_setFrames, State.stackBytes_setFrames, hl9, hb9]
    refine ⟨⟨⟨⟨by omega, by omega, by omega, by omega, by omega, h6⟩, ?_⟩, ?_⟩, X.book⟩
    · show T.heap.size + R'.cells ≤ e.platform.maxCells
      omega
    · show T.slotsUsed + R'.slots ≤ e.platform.maxSlots
      omega
  · rw [State.stackLimits_setFrames]; rfl
  · rw [State.stackBytes_setFrames]; rfl
  · refine ⟨?_, Nat.le_refl _, Nat.le_refl _, ?_, ?_, fun a c9 h9 => ⟨c9, h9, rfl, rfl, fun _ _ => rfl⟩⟩
    · obtain ⟨t, ht, -⟩ := State.frames_cons hr
      show T.setVm s.vm = { ((T.setVm s.vm).setFrames (.invoking m args :: below)).setFrames (T.setVm s.vm).frames with heap := T.heap, slotsUsed := T.slotsUsed }
      rw [State.setFrames_setFrames, State.setFrames_self ht]
      rfl
    · show T.slotsUsed = T.slotsUsed + ((T.heap.toList.drop T.heap.size).map (·.slots.size)).sum
      rw [List.drop_eq_nil_of_le (Nat.le_of_eq Array.length_toList)]
      rfl
    · show ((T.heap.toList.drop T.heap.size).map (·.slots.size)).sum ≤ 0
      rw [List.drop_eq_nil_of_le (Nat.le_of_eq Array.length_toList)]
      exact Nat.le_refl _
/-- 'throw new E()': new; dup; invokespecial; athrow -/
theorem vx_throw0 {cc : ByteArray} {pc : Nat} (hexec : p.tables.exec = Jvm.exec) (hb : c.code = cc) (hl : l.stackTraces = false) {own cls : String} {names : List String} {ik ic mc ms : Nat} {A : Nat → Prop}
    (hown : s.vm.findClass own = some m.cls) (hcls : Bundle.fit cls = true) (hnames : ∀ n ∈ names, Bundle.fit n = true)
    (hk : (Cond.classLink own ik cls).before args s = true) (hini : (Cond.initialized cls).before args s = true) (hat : ∀ w ∈ vx_at0 own ic cls names, w.before args s = true)
    (hgood : ∀ w ∈ Cond.classLink own ik cls :: Cond.initialized cls :: vx_at0 own ic cls names, vx_ot w = true)
    (hU : vx_Zq Bundle.tN "UNASSIGNED_STACK" Bundle.steD A s s.heap) (hN : vx_Zq Bundle.tN "SUPPRESSED_SENTINEL" Bundle.listD A s s.heap) (hS : va_S A s.heap H locs) (hsize : ls.size = c.maxLocals)
    (d0 : decode cc pc = .ok (.new ik, 3)) (d3 : decode cc (pc + 3) = .ok (.dup, 1)) (d4 : decode cc (pc + 4) = .ok (.invokespecial ic, 3)) (d7 : decode cc (pc + 7) = .ok (.athrow, 1))
    (hout : ∀ x ∈ c.exceptionTable.toList, covers x (pc + 7) = false)
    (hRframes : names.length + 3 < R.frames) (hRlocals : (rest.map fun v => v.category).sum + (13 * (names.length + 1) + 42) ≤ R.locals) (hRcells : cells + 1 ≤ R.cells) (hRslots : slots + 6 ≤ R.slots) (hlocks : meth.locks = false)
    (hx : ∀ t : State, s.vm.Alike t.vm → H.size ≤ t.heap.size → (∀ q : Nat, q < H.size → t.heap[q]? = H[q]?) → XC cls s t)
    (hf : ∀ z ∈ locs, free z.base) (hc : cells + 1 ≤ mc) (hs : slots + 6 ≤ ms) :
    W p l e R s m args below meth c H locs cells slots (vx_MQ below Qc XC args s mc ms free) (F0 m pc ls rest) := by
  intro T hT X
  have htr : e.platform.stackTraces = false := (show e.platform.stackTraces = l.stackTraces by rw [X.admits.platform]).trans hl
  have Y := vx_rebase X (R' := { frames := R.frames, locals := R.locals, cells := 1, slots := 6 }) (Nat.le_refl _) (Nat.le_refl _) hRcells hRslots
  obtain ⟨s', hA⟩ : ∃ z, z = (T.setVm s.vm).setFrames (.invoking m args :: below) := ⟨_, rfl⟩
  rw [← hA] at Y
  have hvm : s'.vm = s.vm := by rw [hA]; rfl
  have hhp : s'.heap = H := by rw [hA]; exact hT
  have hW0 : s.WarmedH s'.vm := by rw [hvm]; exact State.WarmedH.refl s
  have hat' : ∀ w ∈ vx_at0 own ic cls names, w.before args s' = true := fun w hw => vx_ot_at hW0 hvm.symm (hgood w (List.mem_cons_of_mem _ (List.mem_cons_of_mem _ hw))) (hat w hw)
  have hk' : (Cond.classLink own ik cls).before args s' = true := vx_ot_at hW0 hvm.symm (hgood _ List.mem_cons_self) hk
  have hini' : (Cond.initialized cls).before args s' = true := vx_ot_at hW0 hvm.symm (hgood _ (List.mem_cons_of_mem _ List.mem_cons_self)) hini
  have hU' : vx_Zq Bundle.tN "UNASSIGNED_STACK" Bundle.steD A s' s'.heap := by rw [hhp]; exact vx_Zq.moved hW0.alike (hU.kept hS.2.1)
  have hN' : vx_Zq Bundle.tN "SUPPRESSED_SENTINEL" Bundle.listD A s' s'.heap := by rw [hhp]; exact vx_Zq.moved hW0.alike (hN.kept hS.2.1)
  have h : ∀ w ∈ Bundle.ownAtoms0 own ic cls names, w.before args s' = true := vx_own hat' (vx_isRefq hU'.1) (vx_isRefq hN'.1) hU'.2.word hN'.2.word
  have hown' : s'.vm.findClass own = some m.cls := by rw [hvm]; exact hown
  have hins : (Cond.instantiable cls 6).before args s' = true := h _ (by simp [Bundle.ownAtoms0])
  obtain ⟨vm₁, cX, kX, hfX, hkX, -, -, X₁, st1⟩ := Y.newCold hexec (own := own) (C := cls) (index := ik) (n := 6) hown' hk' hins hini'
    (g := F0 m pc ls rest) rfl (by rw [hb]; exact d0) (Nat.le_refl _) (Nat.le_refl _)
  generalize hT1 : (T.setVm vm₁).pushCell { cls := cX, slots := kX.instanceTypes.map defaultValue, vm := .none } = T1 at X₁ st1
  have hcat : (Value.ref T.heap.size).category = 1 := rfl
  have hcellA : T1.heap[T.heap.size]? = some (freshCell cX kX) := by rw [← hT1]; exact State.heap_pushCell_size _ _
  have d3' : decode c.code (pc + 3) = .ok (.dup, 1) := by rw [hb]; exact d3
  obtain ⟨U, hsteps, hrun, hend, hW, hsame, ce, hce, hO⟩ := X₁.ctorThrow0 hexec htr (own := own) (cls := cls) (names := names) (ic := ic) hown' hcls hnames h (fun x hx => nomatch hx) hfX hkX hcellA (by rw [hhp, hT]; exact Nat.le_refl _)
    (g := { method := m, pc := pc + 4, locals := ls, stack := .ref T.heap.size :: .ref T.heap.size :: rest, locked := none }) rfl hsize rfl rfl (rest := rest) rfl
    (by rw [hb]; exact d4) (by rw [hb]; exact d7) hout hRframes (by simp only [List.map_cons, List.sum_cons, hcat]; omega) hlocks
  obtain ⟨f1, f2⟩ := vx_frame hsame
  rw [hhp] at f1 f2
  have hWs : s.WarmedH U.vm := State.WarmedH.trans hW0 hW
  have hcl : s.vm.findClass cls = some ce.cls := by
    have h9 := hO.cls
    rw [hvm] at h9
    exact h9
  have hall : s.sameButNew ({ U with vm := s.vm } : State) locs mc ms := by
    subst hA
    obtain ⟨e1, e2⟩ := hsame
    rw [State.setFrames_setFrames] at e1
    have h2 : (T.setVm s.vm).sameButNew ({ U with vm := s.vm } : State) [] (0 + 1) (0 + 6) := ⟨e1, e2⟩
    have h3 := X.same.trans h2
    rw [List.append_nil] at h3
    exact h3.mono hc hs
  refine ⟨U, ?_, .threw T.heap.size, hrun, hend, Or.inr ⟨T.heap.size, rfl, cls, ce, locs, hx U hWs.alike f1 (fun q hq => f2 q hq (fun z hz => nomatch hz)), hce, hO.vm, hcl, hWs, hall, hf⟩⟩
  refine st1 _ ?_
  show Steps p.tables e below (T1.setTop { method := m, pc := pc + 3, locals := ls, stack := .ref T.heap.size :: rest, locked := none }) _
  jvm_step X₁.here [X₁.here.top, hexec, d3', Value.category]
  exact hsteps
/-- 'throw new E("text")': new; dup; ldc; invokespecial; athrow -/
theorem vx_throwS {cc : ByteArray} {pc : Nat} (hexec : p.tables.exec = Jvm.exec) (hb : c.code = cc) (hl : l.stackTraces = false) {own cls text : String} {names : List String} {ik is ic mc ms sa : Nat} {A : Nat → Prop}
    (hown : s.vm.findClass own = some m.cls) (hcls : Bundle.fit cls = true) (hnames : ∀ n ∈ names, Bundle.fit n = true)
    (hk : (Cond.classLink own ik cls).before args s = true) (hini : (Cond.initialized cls).before args s = true) (hstr : vk_R own is text sa s) (hat : ∀ w ∈ vx_atS own ic cls names, w.before args s = true)
    (hgood : ∀ w ∈ Cond.classLink own ik cls :: Cond.initialized cls :: vx_atS own ic cls names, vx_ot w = true)
    (hU : vx_Zq Bundle.tN "UNASSIGNED_STACK" Bundle.steD A s s.heap) (hN : vx_Zq Bundle.tN "SUPPRESSED_SENTINEL" Bundle.listD A s s.heap) (hS : va_S A s.heap H locs) (hsize : ls.size = c.maxLocals)
    (d0 : decode cc pc = .ok (.new ik, 3)) (d3 : decode cc (pc + 3) = .ok (.dup, 1)) (d4 : decode cc (pc + 4) = .ok (.ldc is, 2)) (d6 : decode cc (pc + 6) = .ok (.invokespecial ic, 3)) (d9 : decode cc (pc + 9) = .ok (.athrow, 1))
    (hout : ∀ x ∈ c.exceptionTable.toList, covers x (pc + 9) = false)
    (hRframes : names.length + 3 < R.frames) (hRlocals : (rest.map fun v => v.category).sum + (13 * (names.length + 1) + 43) ≤ R.locals) (hRcells : cells + 1 ≤ R.cells) (hRslots : slots + 6 ≤ R.slots) (hlocks : meth.locks = false)
    (hx : ∀ t : State, s.vm.Alike t.vm → H.size ≤ t.heap.size → (∀ q : Nat, q < H.size → t.heap[q]? = H[q]?) → XC cls s t)
    (hf : ∀ z ∈ locs, free z.base) (hc : cells + 1 ≤ mc) (hs : slots + 6 ≤ ms) :
    W p l e R s m args below meth c H locs cells slots (vx_MQ below Qc XC args s mc ms free) (F0 m pc ls rest) := by
  intro T hT X
  have htr : e.platform.stackTraces = false := (show e.platform.stackTraces = l.stackTraces by rw [X.admits.platform]).trans hl
  have Y := vx_rebase X (R' := { frames := R.frames, locals := R.locals, cells := 1, slots := 6 }) (Nat.le_refl _) (Nat.le_refl _) hRcells hRslots
  obtain ⟨s', hA⟩ : ∃ z, z = (T.setVm s.vm).setFrames (.invoking m args :: below) := ⟨_, rfl⟩
  rw [← hA] at Y
  have hvm : s'.vm = s.vm := by rw [hA]; rfl
  have hhp : s'.heap = H := by rw [hA]; exact hT
  have hW0 : s.WarmedH s'.vm := by rw [hvm]; exact State.WarmedH.refl s
  have hat' : ∀ w ∈ vx_atS own ic cls names, w.before args s' = true := fun w hw => vx_ot_at hW0 hvm.symm (hgood w (List.mem_cons_of_mem _ (List.mem_cons_of_mem _ hw))) (hat w hw)
  have hk' : (Cond.classLink own ik cls).before args s' = true := vx_ot_at hW0 hvm.symm (hgood _ List.mem_cons_self) hk
  have hini' : (Cond.initialized cls).before args s' = true := vx_ot_at hW0 hvm.symm (hgood _ (List.mem_cons_of_mem _ List.mem_cons_self)) hini
  have hU' : vx_Zq Bundle.tN "UNASSIGNED_STACK" Bundle.steD A s' s'.heap := by rw [hhp]; exact vx_Zq.moved hW0.alike (hU.kept hS.2.1)
  have hN' : vx_Zq Bundle.tN "SUPPRESSED_SENTINEL" Bundle.listD A s' s'.heap := by rw [hhp]; exact vx_Zq.moved hW0.alike (hN.kept hS.2.1)
  have h : ∀ w ∈ Bundle.ownAtoms own ic cls names, w.before args s' = true := vx_own hat' (vx_isRefq hU'.1) (vx_isRefq hN'.1) hU'.2.word hN'.2.word
  have hown' : s'.vm.findClass own = some m.cls := by rw [hvm]; exact hown
  have hins : (Cond.instantiable cls 6).before args s' = true := h _ (by simp [Bundle.ownAtoms])
  obtain ⟨vm₁, cX, kX, hfX, hkX, -, -, X₁, st1⟩ := Y.newCold hexec (own := own) (C := cls) (index := ik) (n := 6) hown' hk' hins hini'
    (g := F0 m pc ls rest) rfl (by rw [hb]; exact d0) (Nat.le_refl _) (Nat.le_refl _)
  generalize hT1 : (T.setVm vm₁).pushCell { cls := cX, slots := kX.instanceTypes.map defaultValue, vm := .none } = T1 at X₁ st1
  have hcat : (Value.ref T.heap.size).category = 1 := rfl
  have hcellA : T1.heap[T.heap.size]? = some (freshCell cX kX) := by rw [← hT1]; exact State.heap_pushCell_size _ _
  have d3' : decode c.code (pc + 3) = .ok (.dup, 1) := by rw [hb]; exact d3
  have d4' : decode c.code (pc + 4) = .ok (.ldc is, 2) := by rw [hb]; exact d4
  have hstr' : vk_R own is text sa s' := vk_R.warm hW0 hstr
  obtain ⟨U, hsteps, hrun, hend, hW, hsame, ce, hce, hO⟩ := X₁.ctorThrowS hexec htr (own := own) (cls := cls) (names := names) (ic := ic) hown' hcls hnames h (fun x hx => nomatch hx) hfX hkX hcellA (by rw [hhp, hT]; exact Nat.le_refl _) (msg := .ref sa) rfl
    (g := { method := m, pc := pc + 6, locals := ls, stack := .ref sa :: .ref T.heap.size :: .ref T.heap.size :: rest, locked := none }) rfl hsize rfl rfl (rest := rest) rfl
    (by rw [hb]; exact d6) (by rw [hb]; exact d9) hout hRframes (by simp only [List.map_cons, List.sum_cons, hcat]; omega) hlocks
  obtain ⟨f1, f2⟩ := vx_frame hsame
  rw [hhp] at f1 f2
  have hWs : s.WarmedH U.vm := State.WarmedH.trans hW0 hW
  have hcl : s.vm.findClass cls = some ce.cls := by
    have h9 := hO.cls
    rw [hvm] at h9
    exact h9
  have hall : s.sameButNew ({ U with vm := s.vm } : State) locs mc ms := by
    subst hA
    obtain ⟨e1, e2⟩ := hsame
    rw [State.setFrames_setFrames] at e1
    have h2 : (T.setVm s.vm).sameButNew ({ U with vm := s.vm } : State) [] (0 + 1) (0 + 6) := ⟨e1, e2⟩
    have h3 := X.same.trans h2
    rw [List.append_nil] at h3
    exact h3.mono hc hs
  refine ⟨U, ?_, .threw T.heap.size, hrun, hend, Or.inr ⟨T.heap.size, rfl, cls, ce, locs, hx U hWs.alike f1 (fun q hq => f2 q hq (fun z hz => nomatch hz)), hce, hO.vm, hcl, hWs, hall, hf⟩⟩
  refine st1 _ ?_
  show Steps p.tables e below (T1.setTop { method := m, pc := pc + 3, locals := ls, stack := .ref T.heap.size :: rest, locked := none }) _
  jvm_step X₁.here [X₁.here.top, hexec, d3', Value.category]
  exact X₁.ldcString hexec (own := own) (text := text) (index := is) (a := sa) hown' hstr'.1 hstr'.2
    (g := { method := m, pc := pc + 4, locals := ls, stack := .ref T.heap.size :: .ref T.heap.size :: rest, locked := none }) rfl d4' _ hsteps
/-- 'throw new E("text")', the text by a wide index -/
theorem vx_throwSW {cc : ByteArray} {pc : Nat} (hexec : p.tables.exec = Jvm.exec) (hb : c.code = cc) (hl : l.stackTraces = false) {own cls text : String} {names : List String} {ik is ic mc ms sa : Nat} {A : Nat → Prop}
    (hown : s.vm.findClass own = some m.cls) (hcls : Bundle.fit cls = true) (hnames : ∀ n ∈ names, Bundle.fit n = true)
    (hk : (Cond.classLink own ik cls).before args s = true) (hini : (Cond.initialized cls).before args s = true) (hstr : vk_R own is text sa s) (hat : ∀ w ∈ vx_atS own ic cls names, w.before args s = true)
    (hgood : ∀ w ∈ Cond.classLink own ik cls :: Cond.initialized cls :: vx_atS own ic cls names, vx_ot w = true)
    (hU : vx_Zq Bundle.tN "UNASSIGNED_STACK" Bundle.steD A s s.heap) (hN : vx_Zq Bundle.tN "SUPPRESSED_SENTINEL" Bundle.listD A s s.heap) (hS : va_S A s.heap H locs) (hsize : ls.size = c.maxLocals)
    (d0 : decode cc pc = .ok (.new ik, 3)) (d3 : decode cc (pc + 3) = .ok (.dup, 1)) (d4 : decode cc (pc + 4) = .ok (.ldc_w is, 3)) (d7 : decode cc (pc + 7) = .ok (.invokespecial ic, 3)) (d10 : decode cc (pc + 10) = .ok (.athrow, 1))
    (hout : ∀ x ∈ c.exceptionTable.toList, covers x (pc + 10) = false)
    (hRframes : names.length + 3 < R.frames) (hRlocals : (rest.map fun v => v.category).sum + (13 * (names.length + 1) + 43) ≤ R.locals) (hRcells : cells + 1 ≤ R.cells) (hRslots : slots + 6 ≤ R.slots) (hlocks : meth.locks = false)
    (hx : ∀ t : State, s.vm.Alike t.vm → H.size ≤ t.heap.size → (∀ q : Nat, q < H.size → t.heap[q]? = H[q]?) → XC cls s t)
    (hf : ∀ z ∈ locs, free z.base) (hc : cells + 1 ≤ mc) (hs : slots + 6 ≤ ms) :
    W p l e R s m args below meth c H locs cells slots (vx_MQ below Qc XC args s mc ms free) (F0 m pc ls rest) := by
  intro T hT X
  have htr : e.platform.stackTraces = false := (show e.platform.stackTraces = l.stackTraces by rw [X.admits.platform]).trans hl
  have Y := vx_rebase X (R' := { frames := R.frames, locals := R.locals, cells := 1, slots := 6 }) (Nat.le_refl _) (Nat.le_refl _) hRcells hRslots
  obtain ⟨s', hA⟩ : ∃ z, z = (T.setVm s.vm).setFrames (.invoking m args :: below) := ⟨_, rfl⟩
  rw [← hA] at Y
  have hvm : s'.vm = s.vm := by rw [hA]; rfl
  have hhp : s'.heap = H := by rw [hA]; exact hT
  have hW0 : s.WarmedH s'.vm := by rw [hvm]; exact State.WarmedH.refl s
  have hat' : ∀ w ∈ vx_atS own ic cls names, w.before args s' = true := fun w hw => vx_ot_at hW0 hvm.symm (hgood w (List.mem_cons_of_mem _ (List.mem_cons_of_mem _ hw))) (hat w hw)
  have hk' : (Cond.classLink own ik cls).before args s' = true := vx_ot_at hW0 hvm.symm (hgood _ List.mem_cons_self) hk
  have hini' : (Cond.initialized cls).before args s' = true := vx_ot_at hW0 hvm.symm (hgood _ (List.mem_cons_of_mem _ List.mem_cons_self)) hini
  have hU' : vx_Zq Bundle.tN "UNASSIGNED_STACK" Bundle.steD A s' s'.heap := by rw [hhp]; exact vx_Zq.moved hW0.alike (hU.kept hS.2.1)
  have hN' : vx_Zq Bundle.tN "SUPPRESSED_SENTINEL" Bundle.listD A s' s'.heap := by rw [hhp]; exact vx_Zq.moved hW0.alike (hN.kept hS.2.1)
  have h : ∀ w ∈ Bundle.ownAtoms own ic cls names, w.before args s' = true := vx_own hat' (vx_isRefq hU'.1) (vx_isRefq hN'.1) hU'.2.word hN'.2.word
  have hown' : s'.vm.findClass own = some m.cls := by rw [hvm]; exact hown
  have hins : (Cond.instantiable cls 6).before args s' = true := h _ (by simp [Bundle.ownAtoms])
  obtain ⟨vm₁, cX, kX, hfX, hkX, -, -, X₁, st1⟩ := Y.newCold hexec (own := own) (C := cls) (index := ik) (n := 6) hown' hk' hins hini'
    (g := F0 m pc ls rest) rfl (by rw [hb]; exact d0) (Nat.le_refl _) (Nat.le_refl _)
  generalize hT1 : (T.setVm vm₁).pushCell { cls := cX, slots := kX.instanceTypes.map defaultValue, vm := .none } = T1 at X₁ st1
  have hcat : (Value.ref T.heap.size).category = 1 := rfl
  have hcellA : T1.heap[T.heap.size]? = some (freshCell cX kX) := by rw [← hT1]; exact State.heap_pushCell_size _ _
  have d3' : decode c.code (pc + 3) = .ok (.dup, 1) := by rw [hb]; exact d3
  have d4' : decode c.code (pc + 4) = .ok (.ldc_w is, 3) := by rw [hb]; exact d4
  have hstr' : vk_R own is text sa s' := vk_R.warm hW0 hstr
  obtain ⟨U, hsteps, hrun, hend, hW, hsame, ce, hce, hO⟩ := X₁.ctorThrowS hexec htr (own := own) (cls := cls) (names := names) (ic := ic) hown' hcls hnames h (fun x hx => nomatch hx) hfX hkX hcellA (by rw [hhp, hT]; exact Nat.le_refl _) (msg := .ref sa) rfl
    (g := { method := m, pc := pc + 7, locals := ls, stack := .ref sa :: .ref T.heap.size :: .ref T.heap.size :: rest, locked := none }) rfl hsize rfl rfl (rest := rest) rfl
    (by rw [hb]; exact d7) (by rw [hb]; exact d10) hout hRframes (by simp only [List.map_cons, List.sum_cons, hcat]; omega) hlocks
  obtain ⟨f1, f2⟩ := vx_frame hsame
  rw [hhp] at f1 f2
  have hWs : s.WarmedH U.vm := State.WarmedH.trans hW0 hW
  have hcl : s.vm.findClass cls = some ce.cls := by
    have h9 := hO.cls
    rw [hvm] at h9
    exact h9
  have hall : s.sameButNew ({ U with vm := s.vm } : State) locs mc ms := by
    subst hA
    obtain ⟨e1, e2⟩ := hsame
    rw [State.setFrames_setFrames] at e1
    have h2 : (T.setVm s.vm).sameButNew ({ U with vm := s.vm } : State) [] (0 + 1) (0 + 6) := ⟨e1, e2⟩
    have h3 := X.same.trans h2
    rw [List.append_nil] at h3
    exact h3.mono hc hs
  refine ⟨U, ?_, .threw T.heap.size, hrun, hend, Or.inr ⟨T.heap.size, rfl, cls, ce, locs, hx U hWs.alike f1 (fun q hq => f2 q hq (fun z hz => nomatch hz)), hce, hO.vm, hcl, hWs, hall, hf⟩⟩
  refine st1 _ ?_
  show Steps p.tables e below (T1.setTop { method := m, pc := pc + 3, locals := ls, stack := .ref T.heap.size :: rest, locked := none }) _
  jvm_step X₁.here [X₁.here.top, hexec, d3', Value.category]
  exact X₁.ldcStringW hexec (own := own) (text := text) (index := is) (a := sa) hown' hstr'.1 hstr'.2
    (g := { method := m, pc := pc + 4, locals := ls, stack := .ref T.heap.size :: .ref T.heap.size :: rest, locked := none }) rfl d4' _ hsteps
end Ends
section Bodies
variable {l : Launch}
theorem vx_ofW {y : MethodName} {ws ws' : List Cond} {rm : Room} {Pc : Array Value → State → Prop} {Qc : Array Value → State → Outcome → State → Prop} {XC : String → State → State → Prop} {mc ms : Nat} {free : Addr → Prop} {cc : ByteArray} {maxL : Nat} {ret : Option FieldType}
    (hy : plainName y.cls = true) (hw : ws = Cond.code y cc maxL ret :: ws')
    (body : ∀ p e s m args below meth c s₁, BodyLoose p l y (headSpec ws rm) cc maxL ret e s m args below meth c s₁ → c.maxLocals = maxL → (∀ x ∈ c.exceptionTable.toList, False) → Pc args s →
      W p l e (headSpec ws rm).room s m args below meth c s.heap [] 0 0 (vx_MQ below Qc XC args s mc ms free) (entryFrame m args maxL)) : vx_Met l y ws rm Pc Qc XC mc ms free := by
  refine MetFree.of_bodyS (code := cc) (maxLocals := maxL) (ret := ret) hy ?_ ?_
  · intro args s m h hn
    obtain ⟨meth, c, h1, h2, h3, h4, h5, h6, -, -⟩ := Cond.code_spec hn (atoms_spec (ws := ws) h _ (by rw [hw]; exact List.mem_cons_self))
    exact ⟨meth, c, h1, h2, h3, h4, h5, h6⟩
  · intro p e s m args below meth c s₁ B hml hP _
    have hh0 : s₁.heap = s.heap := by rw [B.state]; rfl
    have ht : ∀ x ∈ c.exceptionTable.toList, False := by
      obtain ⟨meth9, c9, h1, h2, -, -, -, -, h7, -⟩ := Cond.code_spec B.named (atoms_spec (ws := ws) B.pre _ (by rw [hw]; exact List.mem_cons_self))
      cases Option.some.inj (h1.symm.trans B.method)
      cases Option.some.inj (h2.symm.trans (Stand.of_body B).code)
      intro x hx
      rw [Array.isEmpty_iff.mp h7] at hx
      cases hx
    obtain ⟨t, a1, o, b1, b2, b3⟩ := body p e s m args below meth c s₁ B hml ht hP s₁ hh0 (Stand.of_body B)
    exact ⟨t, o, a1, b1, b2, b3⟩
/-- the table of a body with handlers -/
theorem vx_table {p : Program} {x y : MethodName} {S : Spec} {cc bytes : ByteArray} {maxL maxL' : Nat} {ret ret' : Option FieldType} {e : Env} {s s₁ : State} {m : MethodId} {args : Array Value} {below : List Frame} {meth : Method} {c : Code} {hh : List (Nat × Nat × Nat × Nat)}
    (B : BodyLoose p l y S cc maxL ret e s m args below meth c s₁) (h : (Cond.codeWith y bytes maxL' ret' hh).before args s = true) : c.exceptionTable.toList = tableOf hh := by
  obtain ⟨m9, meth9, c9, hn9, h1, h2, -, -, h6, -⟩ := Cond.codeWith_spec h
  cases Option.some.inj (hn9.symm.trans B.named)
  cases Option.some.inj (h1.symm.trans B.method)
  cases Option.some.inj (h2.symm.trans (Stand.of_body B).code)
  rw [← h6, table_eq]
end Bodies
end VXA
/-! ===== END ===== -/
/-! ===== BEGIN a static call of a method with an exception table ===== -/
section VXS
variable {p : Program} {l : Launch} {e : Env} {R : Room} {s : State} {m : MethodId} {args : Array Value} {below : List Frame} {meth : Method} {c : Code} {T : State} {H : Heap} {locs : List Loc} {cells slots : Nat}
abbrev vx_CSW (R : Room) (s : State) (args : Array Value) (own : String) (index : Nat) (y : MethodName) (bytes : ByteArray) (maxL : Nat) (ret : Option FieldType) (hh : List (Nat × Nat × Nat × Nat)) (ws : List Cond) (rm : Room) (mc ms n : Nat) : Prop :=
  (rm.cells = mc ∧ rm.slots = ms ∧ rm.frames + 1 ≤ R.frames ∧ 8 + (maxL + 11) + rm.locals ≤ R.locals ∧ (∀ w ∈ ws, ∀ (a' : Array Value) (U : State), s.WarmedH U.vm → w.before a' U = true) ∧ Cond.codeWith y bytes maxL ret hh ∈ ws) ∧
  (Cond.codeWith y bytes maxL ret hh).before args s = true ∧ (Cond.initialized y.cls).before args s = true ∧ (y.cls ≠ "java/lang/invoke/MethodHandle" ∧ y.cls ≠ "java/lang/invoke/VarHandle") ∧
  (∀ sig, parseMethodDescriptor y.desc = some sig → n = sig.parameters.length) ∧ (Cond.methodLink own index y).before args s = true ∧ (Cond.static y).before args s = true
theorem vx_cwSW {own : String} {index maxL mc ms : Nat} {y : MethodName} {bytes : ByteArray} {ret : Option FieldType} {hh : List (Nat × Nat × Nat × Nat)} {Ts ws ws' : List Cond} {rm : Room} (n : Nat) (ht : ∀ w ∈ Ts, w.before args s = true) (hT : GoodIn Ts (va_wsS own index y ws)) (hw : ws = Cond.codeWith y bytes maxL ret hh :: ws') (hrc : rm.cells = mc) (hrs : rm.slots = ms)
    (hd : y.cls ≠ "java/lang/invoke/MethodHandle" ∧ y.cls ≠ "java/lang/invoke/VarHandle" ∧ (parseMethodDescriptor y.desc).map (fun d => d.parameters.length) = some n) (hR : rm.frames + 1 ≤ R.frames ∧ 8 + (maxL + 11) + rm.locals ≤ R.locals) :
    vx_CSW R s args own index y bytes maxL ret hh ws rm mc ms n := by
  have ok : ∀ w ∈ va_wsS own index y ws, w.before args s = true := fun w h => ht w (hT w h).1
  have hG : GoodIn Ts ws := fun w h => hT w (by unfold va_wsS; exact List.mem_append_right _ h)
  have hc : Cond.codeWith y bytes maxL ret hh ∈ ws := by rw [hw]; exact List.mem_cons_self
  refine ⟨⟨hrc, hrs, hR.1, hR.2, pay_in ht hG, hc⟩, ht _ (hG _ hc).1, ok _ (by simp [va_wsS]), ⟨hd.1, hd.2.1⟩, fun sig h => ?_, ok _ (by simp [va_wsS]), ok _ (by simp [va_wsS])⟩
  have h2 := hd.2.2
  rw [h] at h2
  exact (Option.some.inj h2).symm
theorem vx_callSW (X : Stand p l e R s m args below meth c T locs cells slots) (hexec : p.tables.exec = Jvm.exec) {own : String} {index : Nat} {y : MethodName} {bytes : ByteArray} {maxL : Nat} {ret : Option FieldType} {hh : List (Nat × Nat × Nat × Nat)}
    (hown : s.vm.findClass own = some m.cls) (hlink : (Cond.methodLink own index y).before args s = true) (hstat : (Cond.static y).before args s = true) (hinit : (Cond.initialized y.cls).before args s = true)
    (hcode : (Cond.codeWith y bytes maxL ret hh).before args s = true) (hy : y.cls ≠ "java/lang/invoke/MethodHandle" ∧ y.cls ≠ "java/lang/invoke/VarHandle")
    {W9 : Nat} {Pre : Pt → Array Value → Prop} {Post : Pt → Array Value → Option Value → Pt → Prop} (hK : Back l R p e below s args y 3 W9 Pre Post)
    {g : JFrame} (hg : g.method = m) (hsize : g.locals.size = c.maxLocals) {argsL rest : List Value} (hlen : ∀ sig, parseMethodDescriptor y.desc = some sig → argsL.length = sig.parameters.length)
    (hstack : g.stack = argsL.reverse ++ rest) (hW : 2 * g.monitorRoom + (rest.map fun v => v.category).sum ≤ W9) (hdg : decode c.code g.pc = .ok (.invokestatic index, 3))
    (hpre : ∀ vm₁, s.WarmedH vm₁ → Pre ⟨T.setVm vm₁, locs, cells, slots⟩ argsL.toArray) :
    ∃ (v : Option Value) (vm₁ : Vm) (B : Pt), s.WarmedH vm₁ ∧ Stand p l e R s m args below meth c B.U B.locs B.cells B.slots ∧ Post ⟨T.setVm vm₁, locs, cells, slots⟩ argsL.toArray v B ∧
      ∀ target, Steps p.tables e below (B.U.setTop { g with pc := g.pc + 3, stack := v.toList ++ rest }) target → Steps p.tables e below (T.setTop g) target := by
  obtain ⟨mk, methM, cM, hnamed, hmethM, -, -, -, -, -, -, hsigM⟩ := Cond.codeWith_spec hcode
  have hstatic : methM.isStatic = true := Cond.static_spec hnamed hmethM hstat
  obtain ⟨kP, hkP, -⟩ := className_of_methodNamed hnamed
  have hinitP : kP.init = .initialized := Cond.initialized_spec (findClass_of_methodNamed hnamed) hkP hinit
  obtain ⟨vm₁, X₁, hstep₁⟩ := X.invokestatic hexec hown hlink hnamed hmethM hstatic hkP hinitP hy (g := g) hg (argsL := argsL) (rest := rest) (hlen _ hsigM) hstack hdg
  obtain ⟨v, B, X', hpost, hsteps⟩ := hK m meth c ⟨T.setVm vm₁, locs, cells, slots⟩ { g with stack := rest } (.invokestatic index) mk argsL.toArray X₁ hg hsize hdg hW (X₁.named hnamed) (hpre vm₁ X₁.warmed)
  exact ⟨v, vm₁, B, X₁.warmed, X', hpost, fun target h => hstep₁ _ fun acts => by rw [doInvoke_state]; exact hsteps.trans h⟩
theorem vx_runSW {y : MethodName} {bytes cc : ByteArray} {maxL nL mc ms n index : Nat} {ret : Option FieldType} {hh : List (Nat × Nat × Nat × Nat)} {ws : List Cond} {rm : Room} {Pc : Array Value → State → Prop} {Qc : Array Value → State → Outcome → State → Prop} {free : Addr → Prop} {Ts : List Cond} {own : String} {As rest : List Value} {g : JFrame}
    (S : CallFix p m c cc nL s args Ts own) (hM : Met l y ws rm Pc Qc mc ms free) (cw : vx_CSW R s args own index y bytes maxL ret hh ws rm mc ms n) (hp : PreS s H Pc As)
    (hg : g.method = m) (hn : As.length = n) (hsize : g.locals.size = nL) (hstack : g.stack = As.reverse ++ rest) (hW : 2 * g.monitorRoom + (rest.map fun v => v.category).sum ≤ 8) (hdg : decode cc g.pc = .ok (.invokestatic index, 3)) (hf : cells + mc ≤ R.cells ∧ slots + ms ≤ R.slots) :
    va_Run p l e R s m args below meth c H locs cells slots mc ms g rest (Qc As.toArray) (free) := by
  obtain ⟨⟨hrc, hrs, hfr, hlo, hws, hcw⟩, hcode, hini, hy, hlen, hl, hstt⟩ := cw
  have hK : Back l R p e below s args y 3 8 (PreOf R mc ms Pc) (PostOf Qc mc ms free) := va_backW (hh := hh) (bytes := bytes) (maxL := maxL) (ret := ret) hM hp.1 hrc hrs hfr hlo hws hcw (fun a' U hW => word_at hW (Or.inl (by first | rfl | simp [Cond.onTables, Cond.keeps, Cond.steady])) hini)
  obtain ⟨hx, hb, hml, ho, -⟩ := S
  intro T hT X
  obtain ⟨v, vm₁, ⟨U', l2, c2, s2⟩, hW₁, X', ⟨g', mk, t, L, e1, e2, hq, h1, hL, h2, h3⟩, st⟩ := vx_callSW X hx (hh := hh) (bytes := bytes) (maxL := maxL) (ret := ret) ho hl hstt hini hcode hy hK hg (hsize.trans hml.symm) (argsL := As) (rest := rest) (fun sig h => hn.trans (hlen sig h)) hstack hW (by rw [hb]; exact hdg)
    (fun vm₁ hW₁ => ⟨hf.1, hf.2, hp.2 (T.setVm vm₁) hT hW₁⟩)
  dsimp only [Pt.U, Pt.locs, Pt.cells, Pt.slots] at X' e1 e2 h1 h2 h3 st
  subst h1; subst h2; subst h3
  exact ⟨v, (T.setVm vm₁).calling g' mk As.toArray, t, U', L, hT, X', hL, e1, e2, hq, st⟩
/-- not caught here, past rows that name other classes: it goes on to the caller -/
theorem vx_outP {p : Program} {l : Launch} {e : Env} {R : Room} {s : State} {m : MethodId} {args : Array Value} {below : List Frame} {meth : Method} {c : Code} {H : Heap} {locs : List Loc} {cells slots : Nat} {free : Addr → Prop} {ls : Array Slot} {rest : List Value} {Qc : Array Value → State → Outcome → State → Prop} {XC : String → State → State → Prop}
    {pc : Nat} {own E : String} {ce : Cell} {q : Addr} {mc ms : Nat} (hown : s.vm.findClass own = some m.cls) (hlocks : meth.locks = false)
    (hpass : ∀ z ∈ c.exceptionTable.toList, covers z pc = false ∨ (z.catchType ≠ 0 ∧ ∃ nm : String, (Cond.classLink own z.catchType nm).before args s = true ∧ va_Nc E nm s)) (hcell : H[q]? = some ce) (hv : ce.vm = .none) (hcl : s.vm.findClass E = some ce.cls)
    (hx : ∀ t : State, t.heap = H → s.vm.Alike t.vm → XC E s t) (hf : ∀ z ∈ locs, free z.base) (hc : cells ≤ mc) (hs : slots ≤ ms) :
    vx_W p l e R s m args below meth c H locs cells slots (vx_MQ below Qc XC args s mc ms free) (F0 m pc ls rest) q := by
  intro T hT X
  have hpl : e.platform.magicAccessors = ({} : Platform).magicAccessors := by rw [X.admits.platform]
  obtain ⟨vm', hW', X', st⟩ := X.outThrough hlocks q (g := F0 m pc ls rest) rfl rfl rfl (cell := ce) (by rw [hT]; exact hcell) (by rw [hv]; rfl)
    (by obtain ⟨k9, h9, -⟩ := Vm.findClass_spec hcl; exact ⟨k9, h9⟩) (fun z hz => by
      rcases hpass z hz with h | ⟨hz0, nm, hl1, hn1⟩
      · exact Or.inl h
      · obtain ⟨c6, hc6, hcl6⟩ := Cond.classLink_spec hown hl1 e.platform hpl
        obtain ⟨a8, b8, h1, h2, h3⟩ := hn1
        cases Option.some.inj (h1.symm.trans hcl)
        cases Option.some.inj (h2.symm.trans hc6)
        exact Or.inr ⟨hz0, _, hcl6, h3⟩)
  obtain ⟨g₀, hfr⟩ := X'.frames_eq
  have hcell9 : ((T.setVm vm').setFrames (.throwing q :: below)).heap[q]? = some ce := by
    show T.heap[q]? = some ce
    rw [hT]; exact hcell
  have hend : Ended ((T.setVm vm').setFrames (.throwing q :: below)) below (.threw q) := State.frames_setFrames _ (State.cur_lt_of_frames hfr)
  refine ⟨(T.setVm vm').setFrames (.throwing q :: below), ?_, .threw q, X'.here.running, hend, Or.inr ⟨q, rfl, E, ce, locs, hx _ hT (X'.ends _).1.alike, hcell9, hv, hcl, (X'.ends _).1, (X'.ends _).2.mono hc hs, hf⟩⟩
  rw [X.pushThrowing_eq]
  exact st
/-- a thing of a world lies in the heap -/
theorem vx_lt {D : va_G} {cl : List vw_C} {ws : va_W} {H1 : Heap} (h : va_P D cl ws H1) {k : Nat} {q : Nat × va_E} (hk : ws[k]? = some q) : q.1 < H1.size := (h k q hk).lt
end VXS
/-! ===== END ===== -/
/-! ===== BEGIN methods with a table of their own: called by a name, returning or throwing ===== -/
section VXH
/-! vx_backW, vx_callVX, vx_callSX, vx_callVW, vx_runVW, vx_runVX, vx_runSX, vx_ofWH follow the same proofs as their sisters above (Free/Laws.lean, Shelf42/LK1.lean); vx_outP calls Shelf42/NT130.lean (outThrough). -/
section
variable {l : Launch} {R : Room} {p : Program} {e : Env} {below : List Frame} {s : State} {sargs : Array Value} {y : MethodName} {len W9 : Nat}
theorem vx_backW {ws : List Cond} {rm : Room} {Pc : Array Value → State → Prop} {Qc : Array Value → State → Outcome → State → Prop} {XC : String → State → State → Prop} {mc ms : Nat} {free : Addr → Prop} {bytes : ByteArray} {maxL : Nat} {ret : Option FieldType} {hh : List (Nat × Nat × Nat × Nat)}
    (hM : vx_Met l y ws rm Pc Qc XC mc ms free) (hblind : FrameBlind Pc) (hrc : rm.cells = mc) (hrs : rm.slots = ms)
    (hframes : rm.frames + 1 ≤ R.frames) (hlocals : W9 + (maxL + 11) + rm.locals ≤ R.locals)
    (hws : ∀ w ∈ ws, ∀ a' U, s.WarmedH U.vm → w.before a' U = true) (hcode : Cond.codeWith y bytes maxL ret hh ∈ ws) (hinit : ∀ a' U, s.WarmedH U.vm → (Cond.initialized y.cls).before a' U = true) :
    vx_Back l R p e below s sargs y len W9 (PreOf R mc ms Pc) (PostOf Qc mc ms free) (vx_Post XC mc ms free) := by
  intro m meth c A g ig mk a X hg hsize hdg hW hn hp
  have h1 : (headSpec ws rm).pre.before a A.U = true := atoms_intro fun w hw => hws w hw _ _ X.warmed
  have h2 : (Cond.codeWith y bytes maxL ret hh).before a A.U = true := hws _ hcode _ _ X.warmed
  have h3 : (Cond.initialized y.cls).before a A.U = true := hinit _ _ X.warmed
  have h4 : A.cells + (headSpec ws rm).room.cells ≤ R.cells := by rw [show (headSpec ws rm).room.cells = mc from hrc]; exact hp.1
  have h5 : A.slots + (headSpec ws rm).room.slots ≤ R.slots := by rw [show (headSpec ws rm).room.slots = ms from hrs]; exact hp.2.1
  have hPc : Pc a (A.U.calling g mk a) := hblind _ _ _ _ hp.2.2
  obtain ⟨U, Ls, c0, s0⟩ := A
  dsimp only [Pt.U, Pt.locs, Pt.cells, Pt.slots] at h1 h2 h3 h4 h5 X hn hPc ⊢
  obtain ⟨m9, methY, cY, hn9, hmY, hcY, -, hlY, -⟩ := Cond.codeWith_spec h2
  cases Option.some.inj (hn9.symm.trans hn)
  obtain ⟨kY, hkY, -⟩ := className_of_methodNamed hn
  have hinitY : kY.init = .initialized := Cond.initialized_spec (findClass_of_methodNamed hn) hkY h3
  have h : At U g.method c below := by rw [hg]; exact X.here
  have hlocals9 : W9 + (maxL + 11) + (headSpec ws rm).room.locals ≤ R.locals := hlocals
  have happ : (headSpec ws rm).appliesLoose y e.platform (U.calling g mk a) = true :=
    Spec.appliesLoose_calling (g := g) h hdg hn hkY hinitY
      (X.room_calling (g := g) (R' := (headSpec ws rm).room) hsize hmY hcY hframes (by rw [hlY]; omega) h4 h5) h1
  obtain ⟨mid, hmid⟩ := h.above
  have hfr : (U.setTop g).frames = (.java g :: mid) ++ below := by rw [State.frames_setTop' g h.top, hmid]; rfl
  obtain ⟨o, s₂, hsteps, -, hend, hq⟩ := Steps.callFree hM p X.admits X.cas X.clock (acts := []) hfr happ hPc trivial
  have hq' : vx_Q Qc XC mc ms free a (U.calling g mk a) o s₂ := hq
  rw [State.frames_setTop' g h.top] at hend
  obtain ⟨g₀, hg0⟩ := Option.isSome_iff_exists.mp h.top
  obtain ⟨r, hr⟩ := State.topJava?_eq_some.mp hg0
  have hr' : (({ U with heap := s₂.heap, slotsUsed := s₂.slotsUsed } : State).setVm s₂.vm).frames = .java g₀ :: r := hr
  rcases hq' with ⟨hqc, L, hfe, hL⟩ | ⟨q, rfl, E, ce, L, hx, hce, hcv, hcl, hW₂, hsm, hL⟩
  · obtain ⟨⟨v, rfl⟩, hW₂, e2, q2, q3, q4, q5, q6⟩ := id hfe
    have e3 : s₂ = ({ (U.calling g mk a).setFrames s₂.frames with heap := s₂.heap, slotsUsed := s₂.slotsUsed } : State).setVm s₂.vm := by
      have : s₂ = ({ s₂ with vm := (U.calling g mk a).vm } : State).setVm s₂.vm := rfl
      rw [e2] at this
      exact this
    obtain ⟨c₂, i₂, len₂, hc₂, hd₂, hf₂⟩ := hend
    have hW' : U.WarmedH s₂.vm := hW₂
    have hcc : c₂ = c := by
      have h1 : s₂.code? g.method = U.code? g.method := by
        rw [State.code?_eq, State.code?_eq, hW'.alike.method?]
      exact Option.some.inj (hc₂.symm.trans (h1.trans h.code))
    subst hcc
    have hlen : len₂ = len := by rw [hdg] at hd₂; cases hd₂; rfl
    subst hlen
    have hs₂ : s₂ = (({ U with heap := s₂.heap, slotsUsed := s₂.slotsUsed } : State).setVm s₂.vm).setTop { g with pc := g.pc + len₂, stack := v.toList ++ g.stack } := by
      refine e3.trans ?_
      rw [hf₂, State.calling_eq h.top, State.setFrames_setFrames, State.setTop_of_frames _ hr', hr]
      rfl
    have hsame : U.sameButNew ({ U with heap := s₂.heap, slotsUsed := s₂.slotsUsed } : State) L mc ms := by
      refine ⟨?_, q2, q3, q4, q5, q6⟩
      obtain ⟨t, ht, -⟩ := State.frames_cons hr
      show ({ U with heap := s₂.heap, slotsUsed := s₂.slotsUsed } : State) = { U.setFrames U.frames with heap := s₂.heap, slotsUsed := s₂.slotsUsed }
      rw [State.setFrames_self ht]
    subst hg
    refine Or.inl ⟨v, ⟨(({ U with heap := s₂.heap, slotsUsed := s₂.slotsUsed } : State).setVm s₂.vm), Ls ++ L, c0 + mc, s0 + ms⟩,
      ⟨X.admits, X.cas, X.clock, X.frames, X.room, X.hears, X.method, X.code, (X.here.setHeapUsed s₂.heap s₂.slotsUsed).setVm hW'.alike, X.tail, State.WarmedH.trans X.warmed hW', X.limits, X.bytes, X.same.trans (hsame.setVm s.vm)⟩,
      ⟨g, mk, s₂, L, rfl, rfl, hqc, rfl, hL, rfl, rfl⟩, ?_⟩
    show Steps p.tables e below _ ((({ U with heap := s₂.heap, slotsUsed := s₂.slotsUsed } : State).setVm s₂.vm).setTop { g with pc := g.pc + len₂, stack := v.toList ++ g.stack })
    rw [← hs₂]
    exact hsteps
  · obtain ⟨e2, q2, q3, q4, q5, q6⟩ := id hsm
    have e3 : s₂ = ({ (U.calling g mk a).setFrames s₂.frames with heap := s₂.heap, slotsUsed := s₂.slotsUsed } : State).setVm s₂.vm := by
      have : s₂ = ({ s₂ with vm := (U.calling g mk a).vm } : State).setVm s₂.vm := rfl
      rw [e2] at this
      exact this
    have hf₂ : s₂.frames = .throwing q :: .java g :: U.frames.tail := hend
    have hW' : U.WarmedH s₂.vm := hW₂
    have hs₂ : s₂ = ((({ U with heap := s₂.heap, slotsUsed := s₂.slotsUsed } : State).setVm s₂.vm).setTop g).pushFrame (.throwing q) := by
      refine e3.trans ?_
      rw [hf₂, State.calling_eq h.top, State.setFrames_setFrames, State.pushFrame, State.frames_setTop _ hr', State.setTop_of_frames _ hr', State.setFrames_setFrames, hr]
      rfl
    have hsame : U.sameButNew ({ U with heap := s₂.heap, slotsUsed := s₂.slotsUsed } : State) L mc ms := by
      refine ⟨?_, q2, q3, q4, q5, q6⟩
      obtain ⟨t, ht, -⟩ := State.frames_cons hr
      show ({ U with heap := s₂.heap, slotsUsed := s₂.slotsUsed } : State) = { U.setFrames U.frames with heap := s₂.heap, slotsUsed := s₂.slotsUsed }
      rw [State.setFrames_self ht]
    subst hg
    refine Or.inr ⟨q, ⟨(({ U with heap := s₂.heap, slotsUsed := s₂.slotsUsed } : State).setVm s₂.vm), Ls ++ L, c0 + mc, s0 + ms⟩,
      ⟨X.admits, X.cas, X.clock, X.frames, X.room, X.hears, X.method, X.code, (X.here.setHeapUsed s₂.heap s₂.slotsUsed).setVm hW'.alike, X.tail, State.WarmedH.trans X.warmed hW', X.limits, X.bytes, X.same.trans (hsame.setVm s.vm)⟩,
      ⟨g, mk, s₂, L, E, ce, rfl, rfl, hx, hce, hcv, hcl, rfl, hL, rfl, rfl⟩, ?_⟩
    show Steps p.tables e below _ (((({ U with heap := s₂.heap, slotsUsed := s₂.slotsUsed } : State).setVm s₂.vm).setTop g).pushFrame (.throwing q))
    rw [← hs₂]
    exact hsteps
end
variable {p : Program} {l : Launch} {e : Env} {R : Room} {s : State} {m : MethodId} {args : Array Value} {below : List Frame} {meth : Method} {c : Code} {T : State} {H : Heap} {locs : List Loc} {cells slots : Nat}
theorem vx_callVX (X : Stand p l e R s m args below meth c T locs cells slots) (hexec : p.tables.exec = Jvm.exec) {own C : String} {index : Nat} {y : MethodName} {bytes : ByteArray} {maxL : Nat} {ret : Option FieldType} {hh : List (Nat × Nat × Nat × Nat)}
    (hown : s.vm.findClass own = some m.cls) (hlink : (Cond.methodLink own index y).before args s = true) (hinst : (Cond.instanceMethod y).before args s = true) (hsel : (Cond.selects C y y).before args s = true)
    (hcode : (Cond.codeWith y bytes maxL ret hh).before args s = true) (hy : y.cls ≠ "java/lang/invoke/MethodHandle" ∧ y.cls ≠ "java/lang/invoke/VarHandle")
    {W9 : Nat} {Pre : Pt → Array Value → Prop} {Post : Pt → Array Value → Option Value → Pt → Prop} {PostX : Pt → Array Value → Addr → Pt → Prop} (hK : vx_Back l R p e below s args y 3 W9 Pre Post PostX)
    {b : Addr} {cellB : Cell} (hcell : T.heap[b]? = some cellB) (hobj : cellB.vm.isStatics = false) (hcls : s.vm.findClass C = some cellB.cls)
    {g : JFrame} (hg : g.method = m) (hsize : g.locals.size = c.maxLocals) {argsL rest : List Value} (hlen : ∀ sig, parseMethodDescriptor y.desc = some sig → argsL.length = sig.parameters.length)
    (hstack : g.stack = argsL.reverse ++ .ref b :: rest) (hW : 2 * g.monitorRoom + (rest.map fun v => v.category).sum ≤ W9) (hdg : decode c.code g.pc = .ok (.invokevirtual index, 3))
    (hpre : ∀ vm₁, s.WarmedH vm₁ → Pre ⟨T.setVm vm₁, locs, cells, slots⟩ (Value.ref b :: argsL).toArray) :
    (∃ (v : Option Value) (vm₁ : Vm) (B : Pt), s.WarmedH vm₁ ∧ Stand p l e R s m args below meth c B.U B.locs B.cells B.slots ∧ Post ⟨T.setVm vm₁, locs, cells, slots⟩ (Value.ref b :: argsL).toArray v B ∧
      ∀ target, Steps p.tables e below (B.U.setTop { g with pc := g.pc + 3, stack := v.toList ++ rest }) target → Steps p.tables e below (T.setTop g) target) ∨
    (∃ (q : Addr) (vm₁ : Vm) (B : Pt), s.WarmedH vm₁ ∧ Stand p l e R s m args below meth c B.U B.locs B.cells B.slots ∧ PostX ⟨T.setVm vm₁, locs, cells, slots⟩ (Value.ref b :: argsL).toArray q B ∧
      Steps p.tables e below (T.setTop g) ((B.U.setTop { g with stack := rest }).pushFrame (.throwing q))) := by
  obtain ⟨mk, methM, hnamed, hmethM, hstM, habM⟩ := Cond.instanceMethod_spec hinst
  obtain ⟨m8, methM', cM, hn8, hmethM', -, -, -, -, -, -, hsigM⟩ := Cond.codeWith_spec hcode
  cases Option.some.inj (hn8.symm.trans hnamed)
  cases hmethM.symm.trans hmethM'
  obtain ⟨c2, r2, m2, q1, q2, q3, q4, kP, hkP, hkPi⟩ := Cond.selects_spec hsel
  cases hcls.symm.trans q1
  cases (State.methodFound?_of_named hnamed hy).symm.trans q2
  cases hnamed.symm.trans q3
  have hselP : selectMethod e.platform s.vm cellB.cls mk = .method mk := by rw [Launch.admits_selectMethod X.admits]; exact q4
  obtain ⟨vm₁, X₁, hstep₁⟩ := X.invokevirtual hexec hown hlink hnamed hmethM hstM hkP hkPi hy (a := b) (cell := cellB) hcell
    (fun z h => by rw [h] at hobj; cases hobj) hselP hmethM habM hkP hkPi (g := g) hg (argsL := argsL) (rest := rest) (hlen _ hsigM) hstack hdg
  rcases hK m meth c ⟨T.setVm vm₁, locs, cells, slots⟩ { g with stack := rest } (.invokevirtual index) mk (Value.ref b :: argsL).toArray X₁ hg hsize hdg hW (X₁.named hnamed) (hpre vm₁ X₁.warmed) with ⟨v, B, X', hpost, hsteps⟩ | ⟨q, B, X', hpost, hsteps⟩
  · exact Or.inl ⟨v, vm₁, B, X₁.warmed, X', hpost, fun target h => hstep₁ _ fun acts => by rw [doInvoke_state]; exact hsteps.trans h⟩
  · exact Or.inr ⟨q, vm₁, B, X₁.warmed, X', hpost, hstep₁ _ fun acts => by rw [doInvoke_state]; exact hsteps⟩
theorem vx_callSX (X : Stand p l e R s m args below meth c T locs cells slots) (hexec : p.tables.exec = Jvm.exec) {own : String} {index : Nat} {y : MethodName} {bytes : ByteArray} {maxL : Nat} {ret : Option FieldType} {hh : List (Nat × Nat × Nat × Nat)}
    (hown : s.vm.findClass own = some m.cls) (hlink : (Cond.methodLink own index y).before args s = true) (hstat : (Cond.static y).before args s = true) (hinit : (Cond.initialized y.cls).before args s = true)
    (hcode : (Cond.codeWith y bytes maxL ret hh).before args s = true) (hy : y.cls ≠ "java/lang/invoke/MethodHandle" ∧ y.cls ≠ "java/lang/invoke/VarHandle")
    {W9 : Nat} {Pre : Pt → Array Value → Prop} {Post : Pt → Array Value → Option Value → Pt → Prop} {PostX : Pt → Array Value → Addr → Pt → Prop} (hK : vx_Back l R p e below s args y 3 W9 Pre Post PostX)
    {g : JFrame} (hg : g.method = m) (hsize : g.locals.size = c.maxLocals) {argsL rest : List Value} (hlen : ∀ sig, parseMethodDescriptor y.desc = some sig → argsL.length = sig.parameters.length)
    (hstack : g.stack = argsL.reverse ++ rest) (hW : 2 * g.monitorRoom + (rest.map fun v => v.category).sum ≤ W9) (hdg : decode c.code g.pc = .ok (.invokestatic index, 3))
    (hpre : ∀ vm₁, s.WarmedH vm₁ → Pre ⟨T.setVm vm₁, locs, cells, slots⟩ argsL.toArray) :
    (∃ (v : Option Value) (vm₁ : Vm) (B : Pt), s.WarmedH vm₁ ∧ Stand p l e R s m args below meth c B.U B.locs B.cells B.slots ∧ Post ⟨T.setVm vm₁, locs, cells, slots⟩ argsL.toArray v B ∧
      ∀ target, Steps p.tables e below (B.U.setTop { g with pc := g.pc + 3, stack := v.toList ++ rest }) target → Steps p.tables e below (T.setTop g) target) ∨
    (∃ (q : Addr) (vm₁ : Vm) (B : Pt), s.WarmedH vm₁ ∧ Stand p l e R s m args below meth c B.U B.locs B.cells B.slots ∧ PostX ⟨T.setVm vm₁, locs, cells, slots⟩ argsL.toArray q B ∧
      Steps p.tables e below (T.setTop g) ((B.U.setTop { g with stack := rest }).pushFrame (.throwing q))) := by
  obtain ⟨mk, methM, cM, hnamed, hmethM, -, -, -, -, -, -, hsigM⟩ := Cond.codeWith_spec hcode
  have hstatic : methM.isStatic = true := Cond.static_spec hnamed hmethM hstat
  obtain ⟨kP, hkP, -⟩ := className_of_methodNamed hnamed
  have hinitP : kP.init = .initialized := Cond.initialized_spec (findClass_of_methodNamed hnamed) hkP hinit
  obtain ⟨vm₁, X₁, hstep₁⟩ := X.invokestatic hexec hown hlink hnamed hmethM hstatic hkP hinitP hy (g := g) hg (argsL := argsL) (rest := rest) (hlen _ hsigM) hstack hdg
  rcases hK m meth c ⟨T.setVm vm₁, locs, cells, slots⟩ { g with stack := rest } (.invokestatic index) mk argsL.toArray X₁ hg hsize hdg hW (X₁.named hnamed) (hpre vm₁ X₁.warmed) with ⟨v, B, X', hpost, hsteps⟩ | ⟨q, B, X', hpost, hsteps⟩
  · exact Or.inl ⟨v, vm₁, B, X₁.warmed, X', hpost, fun target h => hstep₁ _ fun acts => by rw [doInvoke_state]; exact hsteps.trans h⟩
  · exact Or.inr ⟨q, vm₁, B, X₁.warmed, X', hpost, hstep₁ _ fun acts => by rw [doInvoke_state]; exact hsteps⟩
theorem vx_callVW (X : Stand p l e R s m args below meth c T locs cells slots) (hexec : p.tables.exec = Jvm.exec) {own C : String} {index : Nat} {y : MethodName} {bytes : ByteArray} {maxL : Nat} {ret : Option FieldType} {hh : List (Nat × Nat × Nat × Nat)}
    (hown : s.vm.findClass own = some m.cls) (hlink : (Cond.methodLink own index y).before args s = true) (hinst : (Cond.instanceMethod y).before args s = true) (hsel : (Cond.selects C y y).before args s = true)
    (hcode : (Cond.codeWith y bytes maxL ret hh).before args s = true) (hy : y.cls ≠ "java/lang/invoke/MethodHandle" ∧ y.cls ≠ "java/lang/invoke/VarHandle")
    {W9 : Nat} {Pre : Pt → Array Value → Prop} {Post : Pt → Array Value → Option Value → Pt → Prop} (hK : Back l R p e below s args y 3 W9 Pre Post)
    {b : Addr} {cellB : Cell} (hcell : T.heap[b]? = some cellB) (hobj : cellB.vm.isStatics = false) (hcls : s.vm.findClass C = some cellB.cls)
    {g : JFrame} (hg : g.method = m) (hsize : g.locals.size = c.maxLocals) {argsL rest : List Value} (hlen : ∀ sig, parseMethodDescriptor y.desc = some sig → argsL.length = sig.parameters.length)
    (hstack : g.stack = argsL.reverse ++ .ref b :: rest) (hW : 2 * g.monitorRoom + (rest.map fun v => v.category).sum ≤ W9) (hdg : decode c.code g.pc = .ok (.invokevirtual index, 3))
    (hpre : ∀ vm₁, s.WarmedH vm₁ → Pre ⟨T.setVm vm₁, locs, cells, slots⟩ (Value.ref b :: argsL).toArray) :
    ∃ (v : Option Value) (vm₁ : Vm) (B : Pt), s.WarmedH vm₁ ∧ Stand p l e R s m args below meth c B.U B.locs B.cells B.slots ∧ Post ⟨T.setVm vm₁, locs, cells, slots⟩ (Value.ref b :: argsL).toArray v B ∧
      ∀ target, Steps p.tables e below (B.U.setTop { g with pc := g.pc + 3, stack := v.toList ++ rest }) target → Steps p.tables e below (T.setTop g) target := by
  obtain ⟨mk, methM, hnamed, hmethM, hstM, habM⟩ := Cond.instanceMethod_spec hinst
  obtain ⟨m8, methM', cM, hn8, hmethM', -, -, -, -, -, -, hsigM⟩ := Cond.codeWith_spec hcode
  cases Option.some.inj (hn8.symm.trans hnamed)
  cases hmethM.symm.trans hmethM'
  obtain ⟨c2, r2, m2, q1, q2, q3, q4, kP, hkP, hkPi⟩ := Cond.selects_spec hsel
  cases hcls.symm.trans q1
  cases (State.methodFound?_of_named hnamed hy).symm.trans q2
  cases hnamed.symm.trans q3
  have hselP : selectMethod e.platform s.vm cellB.cls mk = .method mk := by rw [Launch.admits_selectMethod X.admits]; exact q4
  obtain ⟨vm₁, X₁, hstep₁⟩ := X.invokevirtual hexec hown hlink hnamed hmethM hstM hkP hkPi hy (a := b) (cell := cellB) hcell
    (fun z h => by rw [h] at hobj; cases hobj) hselP hmethM habM hkP hkPi (g := g) hg (argsL := argsL) (rest := rest) (hlen _ hsigM) hstack hdg
  obtain ⟨v, B, X', hpost, hsteps⟩ := hK m meth c ⟨T.setVm vm₁, locs, cells, slots⟩ { g with stack := rest } (.invokevirtual index) mk (Value.ref b :: argsL).toArray X₁ hg hsize hdg hW (X₁.named hnamed) (hpre vm₁ X₁.warmed)
  exact ⟨v, vm₁, B, X₁.warmed, X', hpost, fun target h => hstep₁ _ fun acts => by rw [doInvoke_state]; exact hsteps.trans h⟩
abbrev vx_CVW (R : Room) (s : State) (args : Array Value) (own C : String) (index : Nat) (y : MethodName) (bytes : ByteArray) (maxL : Nat) (ret : Option FieldType) (hh : List (Nat × Nat × Nat × Nat)) (ws : List Cond) (rm : Room) (mc ms n : Nat) : Prop :=
  (rm.cells = mc ∧ rm.slots = ms ∧ rm.frames + 1 ≤ R.frames ∧ 8 + (maxL + 11) + rm.locals ≤ R.locals ∧ (∀ w ∈ ws, ∀ (a' : Array Value) (U : State), s.WarmedH U.vm → w.before a' U = true) ∧ Cond.codeWith y bytes maxL ret hh ∈ ws) ∧
  (Cond.codeWith y bytes maxL ret hh).before args s = true ∧ (Cond.initialized y.cls).before args s = true ∧ (y.cls ≠ "java/lang/invoke/MethodHandle" ∧ y.cls ≠ "java/lang/invoke/VarHandle") ∧
  (∀ sig, parseMethodDescriptor y.desc = some sig → n = sig.parameters.length) ∧ (Cond.methodLink own index y).before args s = true ∧ (Cond.instanceMethod y).before args s = true ∧ (Cond.selects C y y).before args s = true
theorem vx_cwVW {own C : String} {index maxL mc ms : Nat} {y : MethodName} {bytes : ByteArray} {ret : Option FieldType} {hh : List (Nat × Nat × Nat × Nat)} {Ts ws ws' : List Cond} {rm : Room} (n : Nat) (ht : ∀ w ∈ Ts, w.before args s = true) (hT : GoodIn Ts (wsV own index C y ws)) (hw : ws = Cond.codeWith y bytes maxL ret hh :: ws') (hrc : rm.cells = mc) (hrs : rm.slots = ms)
    (hd : y.cls = C ∧ y.cls ≠ "java/lang/invoke/MethodHandle" ∧ y.cls ≠ "java/lang/invoke/VarHandle" ∧ (parseMethodDescriptor y.desc).map (fun d => d.parameters.length) = some n) (hR : rm.frames + 1 ≤ R.frames ∧ 8 + (maxL + 11) + rm.locals ≤ R.locals) :
    vx_CVW R s args own C index y bytes maxL ret hh ws rm mc ms n := by
  obtain ⟨hC, hd⟩ := hd
  subst hC
  have ok : ∀ w ∈ wsV own index y.cls y ws, w.before args s = true := fun w h => ht w (hT w h).1
  have hG : GoodIn Ts ws := fun w h => hT w (by unfold wsV; exact List.mem_append_right _ h)
  have hc : Cond.codeWith y bytes maxL ret hh ∈ ws := by rw [hw]; exact List.mem_cons_self
  refine ⟨⟨hrc, hrs, hR.1, hR.2, pay_in ht hG, hc⟩, ht _ (hG _ hc).1, ok _ (by simp [wsV]), ⟨hd.1, hd.2.1⟩, fun sig h => ?_, ok _ (by simp [wsV]), ok _ (by simp [wsV]), ok _ (by simp [wsV])⟩
  have h2 := hd.2.2
  rw [h] at h2
  exact (Option.some.inj h2).symm
theorem vx_runVW {y : MethodName} {bytes cc : ByteArray} {maxL nL mc ms n index : Nat} {ret : Option FieldType} {hh : List (Nat × Nat × Nat × Nat)} {ws : List Cond} {rm : Room} {Pc : Array Value → State → Prop} {Qc : Array Value → State → Outcome → State → Prop} {free : Addr → Prop} {Ts : List Cond} {own C : String} {b : Addr} {As rest : List Value} {g : JFrame}
    (S : CallFix p m c cc nL s args Ts own) (hM : Met l y ws rm Pc Qc mc ms free) (cw : vx_CVW R s args own C index y bytes maxL ret hh ws rm mc ms n) (hp : PreV s H C b Pc As)
    (hg : g.method = m) (hn : As.length = n) (hsize : g.locals.size = nL) (hstack : g.stack = As.reverse ++ .ref b :: rest) (hW : 2 * g.monitorRoom + (rest.map fun v => v.category).sum ≤ 8) (hdg : decode cc g.pc = .ok (.invokevirtual index, 3)) (hf : cells + mc ≤ R.cells ∧ slots + ms ≤ R.slots) :
    va_Run p l e R s m args below meth c H locs cells slots mc ms g rest (Qc (Value.ref b :: As).toArray) free := by
  obtain ⟨⟨hrc, hrs, hfr, hlo, hws, hcw⟩, hcode, hini, hy, hlen, hl, hin, hse⟩ := cw
  have hK : Back l R p e below s args y 3 8 (PreOf R mc ms Pc) (PostOf Qc mc ms free) := va_backW (hh := hh) (bytes := bytes) (maxL := maxL) (ret := ret) hM hp.1 hrc hrs hfr hlo hws hcw (fun a' U hW => word_at hW (Or.inl (by first | rfl | simp [Cond.onTables, Cond.keeps, Cond.steady])) hini)
  obtain ⟨hx, hb, hml, ho, -⟩ := S
  obtain ⟨-, ⟨cellB, hcB, hoB, hclB⟩, hPc⟩ := hp
  intro T hT X
  obtain ⟨v, vm₁, ⟨U', l2, c2, s2⟩, hW₁, X', ⟨g', mk, t, L, e1, e2, hq, h1, hL, h2, h3⟩, st⟩ := vx_callVW X hx (C := C) (hh := hh) (bytes := bytes) (maxL := maxL) (ret := ret) ho hl hin hse hcode hy hK (by rw [hT]; exact hcB) hoB hclB hg (hsize.trans hml.symm) (argsL := As) (rest := rest) (fun sig h => hn.trans (hlen sig h)) hstack hW (by rw [hb]; exact hdg)
    (fun vm₁ hW₁ => ⟨hf.1, hf.2, hPc (T.setVm vm₁) hT hW₁⟩)
  dsimp only [Pt.U, Pt.locs, Pt.cells, Pt.slots] at X' e1 e2 h1 h2 h3 st
  subst h1; subst h2; subst h3
  exact ⟨v, (T.setVm vm₁).calling g' mk (Value.ref b :: As).toArray, t, U', L, hT, X', hL, e1, e2, hq, st⟩
section
variable {y : MethodName} {bytes cc : ByteArray} {maxL nL mc ms n index : Nat} {ret : Option FieldType} {ws : List Cond} {rm : Room} {Pc : Array Value → State → Prop} {Qc : Array Value → State → Outcome → State → Prop} {XC : String → State → State → Prop} {free : Addr → Prop} {Ts : List Cond} {own C : String} {b : Addr} {As rest : List Value} {g : JFrame}
theorem vx_runVX {hh : List (Nat × Nat × Nat × Nat)} (S : CallFix p m c cc nL s args Ts own) (hM : vx_Met l y ws rm Pc Qc XC mc ms free) (cw : vx_CVW R s args own C index y bytes maxL ret hh ws rm mc ms n) (hp : PreV s H C b Pc As)
    (hg : g.method = m) (hn : As.length = n) (hsize : g.locals.size = nL) (hstack : g.stack = As.reverse ++ .ref b :: rest) (hW : 2 * g.monitorRoom + (rest.map fun v => v.category).sum ≤ 8) (hdg : decode cc g.pc = .ok (.invokevirtual index, 3)) (hf : cells + mc ≤ R.cells ∧ slots + ms ≤ R.slots) :
    vx_Run p l e R s m args below meth c H locs cells slots mc ms g rest (Qc (Value.ref b :: As).toArray) XC free := by
  obtain ⟨⟨hrc, hrs, hfr, hlo, hws, hcw⟩, hcode, hini, hy, hlen, hl, hin, hse⟩ := cw
  have hK : vx_Back l R p e below s args y 3 8 (PreOf R mc ms Pc) (PostOf Qc mc ms free) (vx_Post XC mc ms free) := vx_backW (hh := hh) (bytes := bytes) (maxL := maxL) (ret := ret) hM hp.1 hrc hrs hfr hlo hws hcw (fun a' U hW => word_at hW (Or.inl (by first | rfl | simp [Cond.onTables, Cond.keeps, Cond.steady])) hini)
  obtain ⟨hx, hb, hml, ho, -⟩ := S
  obtain ⟨-, ⟨cellB, hcB, hoB, hclB⟩, hPc⟩ := hp
  intro T hT X
  rcases vx_callVX X hx (C := C) (hh := hh) (bytes := bytes) (maxL := maxL) (ret := ret) ho hl hin hse hcode hy hK (by rw [hT]; exact hcB) hoB hclB hg (hsize.trans hml.symm) (argsL := As) (rest := rest) (fun sig h => hn.trans (hlen sig h)) hstack hW (by rw [hb]; exact hdg)
    (fun vm₁ hW₁ => ⟨hf.1, hf.2, hPc (T.setVm vm₁) hT hW₁⟩) with ⟨v, vm₁, ⟨U', l2, c2, s2⟩, hW₁, X', ⟨g', mk, t, L, e1, e2, hq, h1, hL, h2, h3⟩, st⟩ | ⟨q, vm₁, ⟨U', l2, c2, s2⟩, hW₁, X', ⟨g', mk, t, L, E, ce, e1, e2, hq, hce, hcv, hcl, h1, hL, h2, h3⟩, st⟩
  · dsimp only [Pt.U, Pt.locs, Pt.cells, Pt.slots] at X' e1 e2 h1 h2 h3 st
    subst h1; subst h2; subst h3
    exact Or.inl ⟨v, (T.setVm vm₁).calling g' mk (Value.ref b :: As).toArray, t, U', L, hT, X', hL, e1, e2, hq, st⟩
  · dsimp only [Pt.U, Pt.locs, Pt.cells, Pt.slots] at X' e1 e2 h1 h2 h3 st hcl
    subst h1; subst h2; subst h3
    exact Or.inr ⟨q, (T.setVm vm₁).calling g' mk (Value.ref b :: As).toArray, t, U', L, E, ce, hT, X', hL, e1, e2, hq, hce, hcv, vx_cls hW₁ hcl, st⟩
theorem vx_runSX {hh : List (Nat × Nat × Nat × Nat)} (S : CallFix p m c cc nL s args Ts own) (hM : vx_Met l y ws rm Pc Qc XC mc ms free) (cw : vx_CSW R s args own index y bytes maxL ret hh ws rm mc ms n) (hp : PreS s H Pc As)
    (hg : g.method = m) (hn : As.length = n) (hsize : g.locals.size = nL) (hstack : g.stack = As.reverse ++ rest) (hW : 2 * g.monitorRoom + (rest.map fun v => v.category).sum ≤ 8) (hdg : decode cc g.pc = .ok (.invokestatic index, 3)) (hf : cells + mc ≤ R.cells ∧ slots + ms ≤ R.slots) :
    vx_Run p l e R s m args below meth c H locs cells slots mc ms g rest (Qc As.toArray) XC free := by
  obtain ⟨⟨hrc, hrs, hfr, hlo, hws, hcw⟩, hcode, hini, hy, hlen, hl, hstt⟩ := cw
  have hK : vx_Back l R p e below s args y 3 8 (PreOf R mc ms Pc) (PostOf Qc mc ms free) (vx_Post XC mc ms free) := vx_backW (hh := hh) (bytes := bytes) (maxL := maxL) (ret := ret) hM hp.1 hrc hrs hfr hlo hws hcw (fun a' U hW => word_at hW (Or.inl (by first | rfl | simp [Cond.onTables, Cond.keeps, Cond.steady])) hini)
  obtain ⟨hx, hb, hml, ho, -⟩ := S
  intro T hT X
  rcases vx_callSX X hx (hh := hh) (bytes := bytes) (maxL := maxL) (ret := ret) ho hl hstt hini hcode hy hK hg (hsize.trans hml.symm) (argsL := As) (rest := rest) (fun sig h => hn.trans (hlen sig h)) hstack hW (by rw [hb]; exact hdg)
    (fun vm₁ hW₁ => ⟨hf.1, hf.2, hp.2 (T.setVm vm₁) hT hW₁⟩) with ⟨v, vm₁, ⟨U', l2, c2, s2⟩, hW₁, X', ⟨g', mk, t, L, e1, e2, hq, h1, hL, h2, h3⟩, st⟩ | ⟨q, vm₁, ⟨U', l2, c2, s2⟩, hW₁, X', ⟨g', mk, t, L, E, ce, e1, e2, hq, hce, hcv, hcl, h1, hL, h2, h3⟩, st⟩
  · dsimp only [Pt.U, Pt.locs, Pt.cells, Pt.slots] at X' e1 e2 h1 h2 h3 st
    subst h1; subst h2; subst h3
    exact Or.inl ⟨v, (T.setVm vm₁).calling g' mk As.toArray, t, U', L, hT, X', hL, e1, e2, hq, st⟩
  · dsimp only [Pt.U, Pt.locs, Pt.cells, Pt.slots] at X' e1 e2 h1 h2 h3 st hcl
    subst h1; subst h2; subst h3
    exact Or.inr ⟨q, (T.setVm vm₁).calling g' mk As.toArray, t, U', L, E, ce, hT, X', hL, e1, e2, hq, hce, hcv, vx_cls hW₁ hcl, st⟩
end
end VXH
theorem vx_ofWH {l : Launch} {y : MethodName} {ws ws' : List Cond} {rm : Room} {Pc : Array Value → State → Prop} {Qc : Array Value → State → Outcome → State → Prop} {XC : String → State → State → Prop} {mc ms : Nat} {free : Addr → Prop} {cc : ByteArray} {maxL : Nat} {ret : Option FieldType} {hh : List (Nat × Nat × Nat × Nat)}
    (hy : plainName y.cls = true) (hw : ws = Cond.codeWith y cc maxL ret hh :: ws')
    (body : ∀ p e s m args below meth c s₁, BodyLoose p l y (headSpec ws rm) cc maxL ret e s m args below meth c s₁ → c.maxLocals = maxL → Pc args s →
      W p l e (headSpec ws rm).room s m args below meth c s.heap [] 0 0 (vx_MQ below Qc XC args s mc ms free) (entryFrame m args maxL)) : vx_Met l y ws rm Pc Qc XC mc ms free := by
  refine MetFree.of_bodyS (code := cc) (maxLocals := maxL) (ret := ret) hy ?_ ?_
  · intro args s m h hn
    obtain ⟨m9, meth, c, hn9, h1, h2, h3, h4, -, h5, h6, -⟩ := Cond.codeWith_spec (atoms_spec (ws := ws) h _ (by rw [hw]; exact List.mem_cons_self))
    cases hn.symm.trans hn9
    exact ⟨meth, c, h1, h2, h3, h4, h5, h6⟩
  · intro p e s m args below meth c s₁ B hml hP _
    have hh0 : s₁.heap = s.heap := by rw [B.state]; rfl
    obtain ⟨t, a1, o, b1, b2, b3⟩ := body p e s m args below meth c s₁ B hml hP s₁ hh0 (Stand.of_body B)
    exact ⟨t, o, a1, b1, b2, b3⟩
/-! ===== END ===== -/
end
section
def RX0 : String := "KnotRack"
def TX0 : u_T := fun k => match k with
  | 0 => ("KnotRack", "kinds", "[I", true)
  | 1 => ("KnotRack", "efficiencies", "[I", true)
  | 2 => ("KnotRack", "crossingCounts", "[I", true)
  | 3 => ("KnotRack", "spillLoads", "[I", true)
  | 4 => ("KnotRack", "spillTargets", "[I", true)
  | 5 => ("KnotRack", "knotCount", "I", false)
  | 6 => ("KnotRack", "ropeCounts", "[I", true)
  | 7 => ("KnotRack", "lineCount", "I", false)
  | 8 => ("KnotRack", "tiedKnots", "[I", true)
  | _ => ("KnotRack", "ropeStrengths", "[I", true)
def tyX0 : Nat → FieldType := fun k => match k with
  | 0 => .array .int
  | 1 => .array .int
  | 2 => .array .int
  | 3 => .array .int
  | 4 => .array .int
  | 5 => .int
  | 6 => .array .int
  | 7 => .int
  | 8 => .array .int
  | _ => .array .int
abbrev wsX00 : List Cond := u_ws RX0 TX0 10
theorem nmX0 : ∀ a, a < 10 → ∀ b, b < 10 → a ≠ b → (TX0 a).2.1 ≠ (TX0 b).2.1 := by decide +kernel
theorem tyX0_ok : ∀ k, k < 10 → parseFieldDescriptor (TX0 k).2.2.1 = some (tyX0 k) := by decide +kernel
abbrev cX0_init : ByteArray := prog_1_method_1_code
def yX0_init : MethodName := ⟨RX0, "<init>", "()V"⟩
abbrev cX0_addKnot : ByteArray := prog_1_method_2_code
def yX0_addKnot : MethodName := ⟨RX0, "addKnot", "(III)I"⟩
abbrev cX0_setSpill : ByteArray := prog_1_method_3_code
def yX0_setSpill : MethodName := ⟨RX0, "setSpill", "(III)I"⟩
abbrev cX0_tie : ByteArray := prog_1_method_4_code
def yX0_tie : MethodName := ⟨RX0, "tie", "(II)I"⟩
abbrev cX0_join : ByteArray := prog_1_method_5_code
def yX0_join : MethodName := ⟨RX0, "join", "(III)I"⟩
abbrev cX0_retie : ByteArray := prog_1_method_6_code
def yX0_retie : MethodName := ⟨RX0, "retie", "(III)I"⟩
abbrev cX0_pull : ByteArray := prog_1_method_7_code
def yX0_pull : MethodName := ⟨RX0, "pull", "(II)I"⟩
abbrev cX0_knots : ByteArray := prog_1_method_8_code
def yX0_knots : MethodName := ⟨RX0, "knots", "()I"⟩
abbrev cX0_knotsOf : ByteArray := prog_1_method_9_code
def yX0_knotsOf : MethodName := ⟨RX0, "knotsOf", "(I)I"⟩
abbrev cX0_kindOf : ByteArray := prog_1_method_10_code
def yX0_kindOf : MethodName := ⟨RX0, "kindOf", "(I)I"⟩
abbrev cX0_efficiencyOf : ByteArray := prog_1_method_11_code
def yX0_efficiencyOf : MethodName := ⟨RX0, "efficiencyOf", "(I)I"⟩
abbrev cX0_crossingsOf : ByteArray := prog_1_method_12_code
def yX0_crossingsOf : MethodName := ⟨RX0, "crossingsOf", "(I)I"⟩
abbrev cX0_spillsAt : ByteArray := prog_1_method_13_code
def yX0_spillsAt : MethodName := ⟨RX0, "spillsAt", "(I)I"⟩
abbrev cX0_spillsInto : ByteArray := prog_1_method_14_code
def yX0_spillsInto : MethodName := ⟨RX0, "spillsInto", "(I)I"⟩
abbrev cX0_rankOf : ByteArray := prog_1_method_15_code
def yX0_rankOf : MethodName := ⟨RX0, "rankOf", "(I)I"⟩
abbrev cX0_knotAt : ByteArray := prog_1_method_16_code
def yX0_knotAt : MethodName := ⟨RX0, "knotAt", "(II)I"⟩
abbrev cX0_formOf : ByteArray := prog_1_method_17_code
def yX0_formOf : MethodName := ⟨RX0, "formOf", "(II)I"⟩
abbrev cX0_spills : ByteArray := prog_1_method_18_code
def yX0_spills : MethodName := ⟨RX0, "spills", "(II)I"⟩
abbrev cX0_fallsApartAt : ByteArray := prog_1_method_19_code
def yX0_fallsApartAt : MethodName := ⟨RX0, "fallsApartAt", "(I)I"⟩
abbrev cX0_lines : ByteArray := prog_1_method_20_code
def yX0_lines : MethodName := ⟨RX0, "lines", "()I"⟩
abbrev cX0_ropesOf : ByteArray := prog_1_method_21_code
def yX0_ropesOf : MethodName := ⟨RX0, "ropesOf", "(I)I"⟩
abbrev cX0_knotOf : ByteArray := prog_1_method_22_code
def yX0_knotOf : MethodName := ⟨RX0, "knotOf", "(II)I"⟩
abbrev cX0_strengthAt : ByteArray := prog_1_method_23_code
def yX0_strengthAt : MethodName := ⟨RX0, "strengthAt", "(II)I"⟩
abbrev cX0_weakestPlace : ByteArray := prog_1_method_24_code
def yX0_weakestPlace : MethodName := ⟨RX0, "weakestPlace", "(I)I"⟩
abbrev cX0_holds : ByteArray := prog_1_method_25_code
def yX0_holds : MethodName := ⟨RX0, "holds", "(II)Z"⟩
abbrev cX0_holdsUpTo : ByteArray := prog_1_method_26_code
def yX0_holdsUpTo : MethodName := ⟨RX0, "holdsUpTo", "(I)I"⟩
abbrev cX0_wouldGiveWay : ByteArray := prog_1_method_27_code
def yX0_wouldGiveWay : MethodName := ⟨RX0, "wouldGiveWay", "(II)I"⟩
abbrev cX0_bestKnot : ByteArray := prog_1_method_28_code
def yX0_bestKnot : MethodName := ⟨RX0, "bestKnot", "(II)I"⟩
abbrev cX0_strongestLine : ByteArray := prog_1_method_29_code
def yX0_strongestLine : MethodName := ⟨RX0, "strongestLine", "()I"⟩
abbrev cX0_meanEfficiency : ByteArray := prog_1_method_30_code
def yX0_meanEfficiency : MethodName := ⟨RX0, "meanEfficiency", "()D"⟩
abbrev cX0_digest : ByteArray := prog_1_method_31_code
def yX0_digest : MethodName := ⟨RX0, "digest", "()J"⟩
abbrev cX0_digestWithKnot : ByteArray := prog_1_method_32_code
def yX0_digestWithKnot : MethodName := ⟨RX0, "digestWithKnot", "(JI)J"⟩
abbrev cX0_digestWithLine : ByteArray := prog_1_method_33_code
def yX0_digestWithLine : MethodName := ⟨RX0, "digestWithLine", "(JI)J"⟩
abbrev cX0_digestWith : ByteArray := prog_1_method_34_code
def yX0_digestWith : MethodName := ⟨RX0, "digestWith", "(JI)J"⟩
abbrev cX0_checkKind : ByteArray := prog_1_method_35_code
def yX0_checkKind : MethodName := ⟨RX0, "checkKind", "(I)V"⟩
abbrev cX0_checkKnot : ByteArray := prog_1_method_36_code
def yX0_checkKnot : MethodName := ⟨RX0, "checkKnot", "(I)V"⟩
abbrev cX0_checkOfKind : ByteArray := prog_1_method_37_code
def yX0_checkOfKind : MethodName := ⟨RX0, "checkOfKind", "(II)V"⟩
abbrev cX0_checkLoad : ByteArray := prog_1_method_38_code
def yX0_checkLoad : MethodName := ⟨RX0, "checkLoad", "(I)V"⟩
abbrev cX0_checkStrength : ByteArray := prog_1_method_39_code
def yX0_checkStrength : MethodName := ⟨RX0, "checkStrength", "(I)V"⟩
abbrev cX0_checkLine : ByteArray := prog_1_method_40_code
def yX0_checkLine : MethodName := ⟨RX0, "checkLine", "(I)V"⟩
abbrev cX0_checkPlace : ByteArray := prog_1_method_41_code
def yX0_checkPlace : MethodName := ⟨RX0, "checkPlace", "(II)V"⟩
abbrev cX0_checkNotGone : ByteArray := prog_1_method_42_code
def yX0_checkNotGone : MethodName := ⟨RX0, "checkNotGone", "(I)V"⟩
abbrev cX0_isKnot : ByteArray := prog_1_method_43_code
def yX0_isKnot : MethodName := ⟨RX0, "isKnot", "(I)Z"⟩
abbrev cX0_countOfKind : ByteArray := prog_1_method_44_code
def yX0_countOfKind : MethodName := ⟨RX0, "countOfKind", "(I)I"⟩
abbrev cX0_rankInKind : ByteArray := prog_1_method_45_code
def yX0_rankInKind : MethodName := ⟨RX0, "rankInKind", "(I)I"⟩
abbrev cX0_isAheadOf : ByteArray := prog_1_method_46_code
def yX0_isAheadOf : MethodName := ⟨RX0, "isAheadOf", "(II)Z"⟩
abbrev cX0_knotWithRank : ByteArray := prog_1_method_47_code
def yX0_knotWithRank : MethodName := ⟨RX0, "knotWithRank", "(II)I"⟩
abbrev cX0_spillsUnder : ByteArray := prog_1_method_48_code
def yX0_spillsUnder : MethodName := ⟨RX0, "spillsUnder", "(II)Z"⟩
abbrev cX0_formUnder : ByteArray := prog_1_method_49_code
def yX0_formUnder : MethodName := ⟨RX0, "formUnder", "(II)I"⟩
abbrev cX0_slot : ByteArray := prog_1_method_50_code
def yX0_slot : MethodName := ⟨RX0, "slot", "(II)I"⟩
abbrev cX0_kindDueAt : ByteArray := prog_1_method_51_code
def yX0_kindDueAt : MethodName := ⟨RX0, "kindDueAt", "(I)I"⟩
abbrev cX0_isGone : ByteArray := prog_1_method_52_code
def yX0_isGone : MethodName := ⟨RX0, "isGone", "(I)Z"⟩
abbrev cX0_appendRope : ByteArray := prog_1_method_53_code
def yX0_appendRope : MethodName := ⟨RX0, "appendRope", "(III)V"⟩
abbrev cX0_strengthWith : ByteArray := prog_1_method_54_code
def yX0_strengthWith : MethodName := ⟨RX0, "strengthWith", "(III)I"⟩
abbrev cX0_currentStrength : ByteArray := prog_1_method_55_code
def yX0_currentStrength : MethodName := ⟨RX0, "currentStrength", "(II)I"⟩
abbrev cX0_placeHolds : ByteArray := prog_1_method_56_code
def yX0_placeHolds : MethodName := ⟨RX0, "placeHolds", "(III)Z"⟩
abbrev cX0_firstPlaceToGiveWay : ByteArray := prog_1_method_57_code
def yX0_firstPlaceToGiveWay : MethodName := ⟨RX0, "firstPlaceToGiveWay", "(II)I"⟩
abbrev cX0_loadHeldWith : ByteArray := prog_1_method_58_code
def yX0_loadHeldWith : MethodName := ⟨RX0, "loadHeldWith", "(III)I"⟩
abbrev cX0_loadHeldAt : ByteArray := prog_1_method_59_code
def yX0_loadHeldAt : MethodName := ⟨RX0, "loadHeldAt", "(III)I"⟩
def RX1 : String := "KnotRackLaw$Sim"
def TX1 : u_T := fun k => match k with
  | 0 => ("KnotRackLaw$Sim", "knots", "[[I", false)
  | 1 => ("KnotRackLaw$Sim", "ropes", "[[I", false)
  | _ => ("KnotRackLaw$Sim", "tied", "[[I", false)
def tyX1 : Nat → FieldType := fun k => match k with
  | 0 => .array (.array .int)
  | 1 => .array (.array .int)
  | _ => .array (.array .int)
abbrev wsX10 : List Cond := u_ws RX1 TX1 3
theorem nmX1 : ∀ a, a < 3 → ∀ b, b < 3 → a ≠ b → (TX1 a).2.1 ≠ (TX1 b).2.1 := by decide +kernel
theorem tyX1_ok : ∀ k, k < 3 → parseFieldDescriptor (TX1 k).2.2.1 = some (tyX1 k) := by decide +kernel
abbrev cX1_init : ByteArray := prog_3_method_1_code
def yX1_init : MethodName := ⟨RX1, "<init>", "()V"⟩
abbrev cX1_with : ByteArray := prog_3_method_2_code
def yX1_with : MethodName := ⟨RX1, "with", "([[I[I)[[I"⟩
abbrev cX1_first : ByteArray := prog_3_method_3_code
def yX1_first : MethodName := ⟨RX1, "first", "([II)[I"⟩
abbrev cX1_form : ByteArray := prog_3_method_4_code
def yX1_form : MethodName := ⟨RX1, "form", "(II)[I"⟩
abbrev cX1_worth : ByteArray := prog_3_method_5_code
def yX1_worth : MethodName := ⟨RX1, "worth", "(I)I"⟩
abbrev cX1_rank : ByteArray := prog_3_method_6_code
def yX1_rank : MethodName := ⟨RX1, "rank", "(I)I"⟩
abbrev cX1_strength : ByteArray := prog_3_method_7_code
def yX1_strength : MethodName := ⟨RX1, "strength", "(III)I"⟩
abbrev cX1_gives : ByteArray := prog_3_method_8_code
def yX1_gives : MethodName := ⟨RX1, "gives", "(II)I"⟩
abbrev cX1_pull : ByteArray := prog_3_method_10_code
def yX1_pull : MethodName := ⟨RX1, "pull", "(II)V"⟩
abbrev cX1_weakest : ByteArray := prog_3_method_11_code
def yX1_weakest : MethodName := ⟨RX1, "weakest", "(I)I"⟩
abbrev cX1_isSame : ByteArray := prog_3_method_12_code
def yX1_isSame : MethodName := ⟨RX1, "isSame", "(LKnotRack;)Z"⟩
def RX2 : String := "KnotRackModel"
def TX2 : u_T := fun k => match k with
  | _ => ("", "", "", false)
def tyX2 : Nat → FieldType := fun k => match k with
  | _ => .int
abbrev wsX20 : List Cond := u_ws RX2 TX2 0
theorem nmX2 : ∀ a, a < 0 → ∀ b, b < 0 → a ≠ b → (TX2 a).2.1 ≠ (TX2 b).2.1 := by decide +kernel
theorem tyX2_ok : ∀ k, k < 0 → parseFieldDescriptor (TX2 k).2.2.1 = some (tyX2 k) := by decide +kernel
def RL : String := "KnotRackLaw"
abbrev cL_below : ByteArray := method_2_code
def yL_below : MethodName := ⟨RL, "below", "(II)I"⟩
abbrev cL_cell : ByteArray := method_3_code
def yL_cell : MethodName := ⟨RL, "cell", "([II)I"⟩
abbrev cL_act : ByteArray := method_4_code
def yL_act : MethodName := ⟨RL, "act", "(LKnotRack;LKnotRackLaw$Sim;I)Z"⟩
abbrev cL_build : ByteArray := method_5_code
def yL_build : MethodName := ⟨RL, "build", "(LKnotRack;[I)LKnotRackLaw$Sim;"⟩
abbrev cL_law : ByteArray := code
def yL_law : MethodName := ⟨RL, "law", "([I)Z"⟩
abbrev vwCl : List vw_C := [(RX0, TX0, 10), (RX1, TX1, 3)]
/-- the words that every method of these walks takes: the good ones of the tables -/
def kr_all : List Cond := lw_tbl.filter goodWord
theorem kr_in {w : Cond} (i : Nat) (h : lw_tbl[i]? = some w) (g : goodWord w = true) : w ∈ kr_all := List.mem_filter.mpr ⟨List.mem_of_getElem? h, g⟩
theorem kr_tbl {w : Cond} (h : w ∈ kr_all) : w ∈ lw_tbl := (List.mem_filter.mp h).1
theorem kq_0 : (Cond.selects RX0 yX0_checkPlace yX0_checkPlace) ∈ kr_all := kr_in 0 (by decide +kernel) rfl
theorem kq_1 : (Cond.selects RX0 yX0_checkLine yX0_checkLine) ∈ kr_all := kr_in 1 (by decide +kernel) rfl
theorem kq_3 : (Cond.selects RX0 yX0_checkKnot yX0_checkKnot) ∈ kr_all := kr_in 3 (by decide +kernel) rfl
theorem kq_4 : (Cond.selects RX0 yX0_isKnot yX0_isKnot) ∈ kr_all := kr_in 4 (by decide +kernel) rfl
theorem kq_5 : (Cond.selects RX0 yX0_checkOfKind yX0_checkOfKind) ∈ kr_all := kr_in 5 (by decide +kernel) rfl
theorem kq_6 : (Cond.selects RX0 yX0_checkNotGone yX0_checkNotGone) ∈ kr_all := kr_in 6 (by decide +kernel) rfl
theorem kq_7 : (Cond.selects RX0 yX0_isGone yX0_isGone) ∈ kr_all := kr_in 7 (by decide +kernel) rfl
theorem kq_8 : (Cond.selects RX0 yX0_firstPlaceToGiveWay yX0_firstPlaceToGiveWay) ∈ kr_all := kr_in 8 (by decide +kernel) rfl
theorem kq_9 : (Cond.selects RX0 yX0_placeHolds yX0_placeHolds) ∈ kr_all := kr_in 9 (by decide +kernel) rfl
theorem kq_10 : (Cond.selects RX0 yX0_formUnder yX0_formUnder) ∈ kr_all := kr_in 10 (by decide +kernel) rfl
theorem kq_11 : (Cond.selects RX0 yX0_spillsUnder yX0_spillsUnder) ∈ kr_all := kr_in 11 (by decide +kernel) rfl
theorem kq_12 : (Cond.selects RX0 yX0_strengthWith yX0_strengthWith) ∈ kr_all := kr_in 12 (by decide +kernel) rfl
theorem kq_13 : (Cond.selects RX0 yX0_countOfKind yX0_countOfKind) ∈ kr_all := kr_in 13 (by decide +kernel) rfl
theorem kq_14 : (Cond.selects RX0 yX0_rankInKind yX0_rankInKind) ∈ kr_all := kr_in 14 (by decide +kernel) rfl
theorem kq_15 : (Cond.selects RX0 yX0_isAheadOf yX0_isAheadOf) ∈ kr_all := kr_in 15 (by decide +kernel) rfl
theorem kq_16 : (Cond.selects RX0 yX0_knotWithRank yX0_knotWithRank) ∈ kr_all := kr_in 16 (by decide +kernel) rfl
theorem kq_17 : (Cond.selects RX0 yX0_currentStrength yX0_currentStrength) ∈ kr_all := kr_in 17 (by decide +kernel) rfl
theorem kq_18 : (Cond.selects RX0 yX0_loadHeldWith yX0_loadHeldWith) ∈ kr_all := kr_in 18 (by decide +kernel) rfl
theorem kq_19 : (Cond.selects RX0 yX0_loadHeldAt yX0_loadHeldAt) ∈ kr_all := kr_in 19 (by decide +kernel) rfl
theorem kq_20 : (Cond.selects RX0 yX0_digestWithKnot yX0_digestWithKnot) ∈ kr_all := kr_in 20 (by decide +kernel) rfl
theorem kq_21 : (Cond.selects RX0 yX0_digestWithLine yX0_digestWithLine) ∈ kr_all := kr_in 21 (by decide +kernel) rfl
theorem kq_22 : (Cond.selects RX1 yX1_worth yX1_worth) ∈ kr_all := kr_in 22 (by decide +kernel) rfl
theorem kq_23 : (Cond.selects RX0 yX0_appendRope yX0_appendRope) ∈ kr_all := kr_in 23 (by decide +kernel) rfl
theorem kq_24 : (Cond.initialized "KnotRackLaw") ∈ kr_all := kr_in 24 (by decide +kernel) rfl
theorem kq_25 : (Cond.initialized "KnotRack") ∈ kr_all := kr_in 25 (by decide +kernel) rfl
theorem kq_26 : (Cond.initialized "KnotRackLaw$Sim") ∈ kr_all := kr_in 26 (by decide +kernel) rfl
theorem kq_28 : (Cond.initialized "java/lang/Exception") ∈ kr_all := kr_in 28 (by decide +kernel) rfl
theorem kq_29 : (Cond.initialized "java/lang/RuntimeException") ∈ kr_all := kr_in 29 (by decide +kernel) rfl
theorem kq_30 : (Cond.initialized "java/lang/IndexOutOfBoundsException") ∈ kr_all := kr_in 30 (by decide +kernel) rfl
theorem kq_31 : (Cond.initialized "java/lang/IllegalArgumentException") ∈ kr_all := kr_in 31 (by decide +kernel) rfl
theorem kq_32 : (Cond.initialized "java/lang/IllegalStateException") ∈ kr_all := kr_in 32 (by decide +kernel) rfl
theorem kq_33 : (Cond.initialized "java/lang/Math") ∈ kr_all := kr_in 33 (by decide +kernel) rfl
theorem kq_34 : (Cond.classLink RL 29 "KnotRack") ∈ kr_all := kr_in 34 (by decide +kernel) rfl
theorem kq_35 : (Cond.instantiable RX0 10) ∈ kr_all := kr_in 35 (by decide +kernel) rfl
theorem kq_36 : (Cond.methodLink RL 69 yX0_init) ∈ kr_all := kr_in 36 (by decide +kernel) rfl
theorem kq_37 : (Cond.instanceMethod yX0_init) ∈ kr_all := kr_in 37 (by decide +kernel) rfl
theorem kq_38 : (Cond.code yX0_init cX0_init 1 none) ∈ kr_all := kr_in 38 (by decide +kernel) rfl
theorem kq_39 : (Cond.methodLink RX0 1 objectInit) ∈ kr_all := kr_in 39 (by decide +kernel) rfl
theorem kq_40 : (Cond.instanceMethod objectInit) ∈ kr_all := kr_in 40 (by decide +kernel) rfl
theorem kq_41 : (Cond.code objectInit ⟨#[0xb1]⟩ 1 none) ∈ kr_all := kr_in 41 (by decide +kernel) rfl
theorem kq_42 : (Cond.fieldLink RX0 9 "KnotRack" "kinds" "[I") ∈ kr_all := kr_in 42 (by decide +kernel) rfl
theorem kq_43 : (Cond.fieldLink RX0 13 "KnotRack" "efficiencies" "[I") ∈ kr_all := kr_in 43 (by decide +kernel) rfl
theorem kq_44 : (Cond.fieldLink RX0 16 "KnotRack" "crossingCounts" "[I") ∈ kr_all := kr_in 44 (by decide +kernel) rfl
theorem kq_45 : (Cond.fieldLink RX0 19 "KnotRack" "spillLoads" "[I") ∈ kr_all := kr_in 45 (by decide +kernel) rfl
theorem kq_46 : (Cond.fieldLink RX0 22 "KnotRack" "spillTargets" "[I") ∈ kr_all := kr_in 46 (by decide +kernel) rfl
theorem kq_47 : (Cond.fieldLink RX0 25 "KnotRack" "knotCount" "I") ∈ kr_all := kr_in 47 (by decide +kernel) rfl
theorem kq_48 : (Cond.fieldLink RX0 29 "KnotRack" "ropeCounts" "[I") ∈ kr_all := kr_in 48 (by decide +kernel) rfl
theorem kq_49 : (Cond.fieldLink RX0 32 "KnotRack" "lineCount" "I") ∈ kr_all := kr_in 49 (by decide +kernel) rfl
theorem kq_50 : (Cond.fieldLink RX0 35 "KnotRack" "tiedKnots" "[I") ∈ kr_all := kr_in 50 (by decide +kernel) rfl
theorem kq_51 : (Cond.fieldLink RX0 38 "KnotRack" "ropeStrengths" "[I") ∈ kr_all := kr_in 51 (by decide +kernel) rfl
theorem kq_73 : (Cond.arrayClass .int) ∈ kr_all := kr_in 73 (by decide +kernel) rfl
theorem kq_74 : (Cond.methodLink RL 50 yX0_retie) ∈ kr_all := kr_in 74 (by decide +kernel) rfl
theorem kq_75 : (Cond.instanceMethod yX0_retie) ∈ kr_all := kr_in 75 (by decide +kernel) rfl
theorem kq_76 : (Cond.selects RX0 yX0_retie yX0_retie) ∈ kr_all := kr_in 76 (by decide +kernel) rfl
theorem kq_77 : (Cond.code yX0_retie cX0_retie 6 (some .int)) ∈ kr_all := kr_in 77 (by decide +kernel) rfl
theorem kq_78 : (Cond.methodLink RX0 90 yX0_checkPlace) ∈ kr_all := kr_in 78 (by decide +kernel) rfl
theorem kq_80 : (Cond.instanceMethod yX0_checkPlace) ∈ kr_all := kr_in 80 (by decide +kernel) rfl
theorem kq_81 : (Cond.code yX0_checkPlace cX0_checkPlace 3 none) ∈ kr_all := kr_in 81 (by decide +kernel) rfl
theorem kq_82 : (Cond.methodLink RX0 82 yX0_checkLine) ∈ kr_all := kr_in 82 (by decide +kernel) rfl
theorem kq_84 : (Cond.instanceMethod yX0_checkLine) ∈ kr_all := kr_in 84 (by decide +kernel) rfl
theorem kq_85 : (Cond.code yX0_checkLine cX0_checkLine 2 none) ∈ kr_all := kr_in 85 (by decide +kernel) rfl
theorem kq_86 : (Cond.classLink RX0 116 "java/lang/IndexOutOfBoundsException") ∈ kr_all := kr_in 86 (by decide +kernel) rfl
theorem kq_87 : (Cond.instantiable "java/lang/IndexOutOfBoundsException" 6) ∈ kr_all := kr_in 87 (by decide +kernel) rfl
theorem kq_153 : (Cond.arrayClass .byte) ∈ kr_all := kr_in 153 (by decide +kernel) rfl
theorem kq_155 : (Cond.methodLink RX0 59 yX0_checkKnot) ∈ kr_all := kr_in 155 (by decide +kernel) rfl
theorem kq_157 : (Cond.instanceMethod yX0_checkKnot) ∈ kr_all := kr_in 157 (by decide +kernel) rfl
theorem kq_158 : (Cond.code yX0_checkKnot cX0_checkKnot 2 none) ∈ kr_all := kr_in 158 (by decide +kernel) rfl
theorem kq_159 : (Cond.methodLink RX0 125 yX0_isKnot) ∈ kr_all := kr_in 159 (by decide +kernel) rfl
theorem kq_161 : (Cond.instanceMethod yX0_isKnot) ∈ kr_all := kr_in 161 (by decide +kernel) rfl
theorem kq_162 : (Cond.code yX0_isKnot cX0_isKnot 2 (some .boolean)) ∈ kr_all := kr_in 162 (by decide +kernel) rfl
theorem kq_164 : (Cond.methodLink RX0 93 yX0_kindDueAt) ∈ kr_all := kr_in 164 (by decide +kernel) rfl
theorem kq_165 : (Cond.static yX0_kindDueAt) ∈ kr_all := kr_in 165 (by decide +kernel) rfl
theorem kq_166 : (Cond.code yX0_kindDueAt cX0_kindDueAt 1 (some .int)) ∈ kr_all := kr_in 166 (by decide +kernel) rfl
theorem kq_167 : (Cond.methodLink RX0 69 yX0_checkOfKind) ∈ kr_all := kr_in 167 (by decide +kernel) rfl
theorem kq_169 : (Cond.instanceMethod yX0_checkOfKind) ∈ kr_all := kr_in 169 (by decide +kernel) rfl
theorem kq_170 : (Cond.code yX0_checkOfKind cX0_checkOfKind 3 none) ∈ kr_all := kr_in 170 (by decide +kernel) rfl
theorem kq_171 : (Cond.classLink RX0 45 "java/lang/IllegalArgumentException") ∈ kr_all := kr_in 171 (by decide +kernel) rfl
theorem kq_172 : (Cond.instantiable "java/lang/IllegalArgumentException" 6) ∈ kr_all := kr_in 172 (by decide +kernel) rfl
theorem kq_187 : (Cond.methodLink RX0 97 yX0_slot) ∈ kr_all := kr_in 187 (by decide +kernel) rfl
theorem kq_188 : (Cond.static yX0_slot) ∈ kr_all := kr_in 188 (by decide +kernel) rfl
theorem kq_189 : (Cond.code yX0_slot cX0_slot 2 (some .int)) ∈ kr_all := kr_in 189 (by decide +kernel) rfl
theorem kq_190 : (Cond.methodLink RL 60 yX0_pull) ∈ kr_all := kr_in 190 (by decide +kernel) rfl
theorem kq_191 : (Cond.instanceMethod yX0_pull) ∈ kr_all := kr_in 191 (by decide +kernel) rfl
theorem kq_192 : (Cond.selects RX0 yX0_pull yX0_pull) ∈ kr_all := kr_in 192 (by decide +kernel) rfl
theorem kq_193 : (Cond.code yX0_pull cX0_pull 6 (some .int)) ∈ kr_all := kr_in 193 (by decide +kernel) rfl
theorem kq_194 : (Cond.methodLink RX0 62 yX0_checkLoad) ∈ kr_all := kr_in 194 (by decide +kernel) rfl
theorem kq_195 : (Cond.static yX0_checkLoad) ∈ kr_all := kr_in 195 (by decide +kernel) rfl
theorem kq_196 : (Cond.code yX0_checkLoad cX0_checkLoad 1 none) ∈ kr_all := kr_in 196 (by decide +kernel) rfl
theorem kq_198 : (Cond.methodLink RX0 85 yX0_checkNotGone) ∈ kr_all := kr_in 198 (by decide +kernel) rfl
theorem kq_200 : (Cond.instanceMethod yX0_checkNotGone) ∈ kr_all := kr_in 200 (by decide +kernel) rfl
theorem kq_201 : (Cond.code yX0_checkNotGone cX0_checkNotGone 2 none) ∈ kr_all := kr_in 201 (by decide +kernel) rfl
theorem kq_202 : (Cond.methodLink RX0 140 yX0_isGone) ∈ kr_all := kr_in 202 (by decide +kernel) rfl
theorem kq_204 : (Cond.instanceMethod yX0_isGone) ∈ kr_all := kr_in 204 (by decide +kernel) rfl
theorem kq_205 : (Cond.code yX0_isGone cX0_isGone 2 (some .boolean)) ∈ kr_all := kr_in 205 (by decide +kernel) rfl
theorem kq_206 : (Cond.classLink RX0 54 "java/lang/IllegalStateException") ∈ kr_all := kr_in 206 (by decide +kernel) rfl
theorem kq_207 : (Cond.instantiable "java/lang/IllegalStateException" 6) ∈ kr_all := kr_in 207 (by decide +kernel) rfl
theorem kq_222 : (Cond.methodLink RX0 101 yX0_firstPlaceToGiveWay) ∈ kr_all := kr_in 222 (by decide +kernel) rfl
theorem kq_224 : (Cond.instanceMethod yX0_firstPlaceToGiveWay) ∈ kr_all := kr_in 224 (by decide +kernel) rfl
theorem kq_225 : (Cond.code yX0_firstPlaceToGiveWay cX0_firstPlaceToGiveWay 4 (some .int)) ∈ kr_all := kr_in 225 (by decide +kernel) rfl
theorem kq_226 : (Cond.methodLink RX0 226 yX0_placeHolds) ∈ kr_all := kr_in 226 (by decide +kernel) rfl
theorem kq_228 : (Cond.instanceMethod yX0_placeHolds) ∈ kr_all := kr_in 228 (by decide +kernel) rfl
theorem kq_229 : (Cond.code yX0_placeHolds cX0_placeHolds 5 (some .boolean)) ∈ kr_all := kr_in 229 (by decide +kernel) rfl
theorem kq_230 : (Cond.methodLink RX0 104 yX0_formUnder) ∈ kr_all := kr_in 230 (by decide +kernel) rfl
theorem kq_232 : (Cond.instanceMethod yX0_formUnder) ∈ kr_all := kr_in 232 (by decide +kernel) rfl
theorem kq_233 : (Cond.code yX0_formUnder cX0_formUnder 5 (some .int)) ∈ kr_all := kr_in 233 (by decide +kernel) rfl
theorem kq_234 : (Cond.methodLink RX0 121 yX0_spillsUnder) ∈ kr_all := kr_in 234 (by decide +kernel) rfl
theorem kq_236 : (Cond.instanceMethod yX0_spillsUnder) ∈ kr_all := kr_in 236 (by decide +kernel) rfl
theorem kq_237 : (Cond.code yX0_spillsUnder cX0_spillsUnder 3 (some .boolean)) ∈ kr_all := kr_in 237 (by decide +kernel) rfl
theorem kq_238 : (Cond.methodLink RX0 223 yX0_strengthWith) ∈ kr_all := kr_in 238 (by decide +kernel) rfl
theorem kq_240 : (Cond.instanceMethod yX0_strengthWith) ∈ kr_all := kr_in 240 (by decide +kernel) rfl
theorem kq_241 : (Cond.code yX0_strengthWith cX0_strengthWith 5 (some .int)) ∈ kr_all := kr_in 241 (by decide +kernel) rfl
theorem kq_242 : (Cond.methodLink RX0 220 Lib.Math.min.name) ∈ kr_all := kr_in 242 (by decide +kernel) rfl
theorem kq_243 : (Cond.static Lib.Math.min.name) ∈ kr_all := kr_in 243 (by decide +kernel) rfl
theorem kq_244 : (Cond.code Lib.Math.min.name Lib.Math.min.code 2 (some .int)) ∈ kr_all := kr_in 244 (by decide +kernel) rfl
theorem kq_245 : (Cond.methodLink RL 82 yX0_knots) ∈ kr_all := kr_in 245 (by decide +kernel) rfl
theorem kq_246 : (Cond.instanceMethod yX0_knots) ∈ kr_all := kr_in 246 (by decide +kernel) rfl
theorem kq_247 : (Cond.selects RX0 yX0_knots yX0_knots) ∈ kr_all := kr_in 247 (by decide +kernel) rfl
theorem kq_248 : (Cond.code yX0_knots cX0_knots 1 (some .int)) ∈ kr_all := kr_in 248 (by decide +kernel) rfl
theorem kq_249 : (Cond.methodLink RL 85 yX0_knotsOf) ∈ kr_all := kr_in 249 (by decide +kernel) rfl
theorem kq_250 : (Cond.instanceMethod yX0_knotsOf) ∈ kr_all := kr_in 250 (by decide +kernel) rfl
theorem kq_251 : (Cond.selects RX0 yX0_knotsOf yX0_knotsOf) ∈ kr_all := kr_in 251 (by decide +kernel) rfl
theorem kq_252 : (Cond.code yX0_knotsOf cX0_knotsOf 2 (some .int)) ∈ kr_all := kr_in 252 (by decide +kernel) rfl
theorem kq_253 : (Cond.methodLink RX0 41 yX0_checkKind) ∈ kr_all := kr_in 253 (by decide +kernel) rfl
theorem kq_254 : (Cond.static yX0_checkKind) ∈ kr_all := kr_in 254 (by decide +kernel) rfl
theorem kq_255 : (Cond.code yX0_checkKind cX0_checkKind 1 none) ∈ kr_all := kr_in 255 (by decide +kernel) rfl
theorem kq_257 : (Cond.methodLink RX0 107 yX0_countOfKind) ∈ kr_all := kr_in 257 (by decide +kernel) rfl
theorem kq_259 : (Cond.instanceMethod yX0_countOfKind) ∈ kr_all := kr_in 259 (by decide +kernel) rfl
theorem kq_260 : (Cond.code yX0_countOfKind cX0_countOfKind 4 (some .int)) ∈ kr_all := kr_in 260 (by decide +kernel) rfl
theorem kq_261 : (Cond.methodLink RL 92 yX0_kindOf) ∈ kr_all := kr_in 261 (by decide +kernel) rfl
theorem kq_262 : (Cond.instanceMethod yX0_kindOf) ∈ kr_all := kr_in 262 (by decide +kernel) rfl
theorem kq_263 : (Cond.selects RX0 yX0_kindOf yX0_kindOf) ∈ kr_all := kr_in 263 (by decide +kernel) rfl
theorem kq_264 : (Cond.code yX0_kindOf cX0_kindOf 2 (some .int)) ∈ kr_all := kr_in 264 (by decide +kernel) rfl
theorem kq_265 : (Cond.methodLink RL 98 yX0_efficiencyOf) ∈ kr_all := kr_in 265 (by decide +kernel) rfl
theorem kq_266 : (Cond.instanceMethod yX0_efficiencyOf) ∈ kr_all := kr_in 266 (by decide +kernel) rfl
theorem kq_267 : (Cond.selects RX0 yX0_efficiencyOf yX0_efficiencyOf) ∈ kr_all := kr_in 267 (by decide +kernel) rfl
theorem kq_268 : (Cond.code yX0_efficiencyOf cX0_efficiencyOf 2 (some .int)) ∈ kr_all := kr_in 268 (by decide +kernel) rfl
theorem kq_269 : (Cond.methodLink RL 112 yX0_spillsAt) ∈ kr_all := kr_in 269 (by decide +kernel) rfl
theorem kq_270 : (Cond.instanceMethod yX0_spillsAt) ∈ kr_all := kr_in 270 (by decide +kernel) rfl
theorem kq_271 : (Cond.selects RX0 yX0_spillsAt yX0_spillsAt) ∈ kr_all := kr_in 271 (by decide +kernel) rfl
theorem kq_272 : (Cond.code yX0_spillsAt cX0_spillsAt 2 (some .int)) ∈ kr_all := kr_in 272 (by decide +kernel) rfl
theorem kq_273 : (Cond.methodLink RL 118 yX0_spillsInto) ∈ kr_all := kr_in 273 (by decide +kernel) rfl
theorem kq_274 : (Cond.instanceMethod yX0_spillsInto) ∈ kr_all := kr_in 274 (by decide +kernel) rfl
theorem kq_275 : (Cond.selects RX0 yX0_spillsInto yX0_spillsInto) ∈ kr_all := kr_in 275 (by decide +kernel) rfl
theorem kq_276 : (Cond.code yX0_spillsInto cX0_spillsInto 2 (some .int)) ∈ kr_all := kr_in 276 (by decide +kernel) rfl
theorem kq_277 : (Cond.methodLink RL 95 yX0_rankOf) ∈ kr_all := kr_in 277 (by decide +kernel) rfl
theorem kq_278 : (Cond.instanceMethod yX0_rankOf) ∈ kr_all := kr_in 278 (by decide +kernel) rfl
theorem kq_279 : (Cond.selects RX0 yX0_rankOf yX0_rankOf) ∈ kr_all := kr_in 279 (by decide +kernel) rfl
theorem kq_280 : (Cond.code yX0_rankOf cX0_rankOf 2 (some .int)) ∈ kr_all := kr_in 280 (by decide +kernel) rfl
theorem kq_281 : (Cond.methodLink RX0 110 yX0_rankInKind) ∈ kr_all := kr_in 281 (by decide +kernel) rfl
theorem kq_283 : (Cond.instanceMethod yX0_rankInKind) ∈ kr_all := kr_in 283 (by decide +kernel) rfl
theorem kq_284 : (Cond.code yX0_rankInKind cX0_rankInKind 4 (some .int)) ∈ kr_all := kr_in 284 (by decide +kernel) rfl
theorem kq_285 : (Cond.methodLink RX0 217 yX0_isAheadOf) ∈ kr_all := kr_in 285 (by decide +kernel) rfl
theorem kq_287 : (Cond.instanceMethod yX0_isAheadOf) ∈ kr_all := kr_in 287 (by decide +kernel) rfl
theorem kq_288 : (Cond.code yX0_isAheadOf cX0_isAheadOf 3 (some .boolean)) ∈ kr_all := kr_in 288 (by decide +kernel) rfl
theorem kq_289 : (Cond.methodLink RL 89 yX0_knotAt) ∈ kr_all := kr_in 289 (by decide +kernel) rfl
theorem kq_290 : (Cond.instanceMethod yX0_knotAt) ∈ kr_all := kr_in 290 (by decide +kernel) rfl
theorem kq_291 : (Cond.selects RX0 yX0_knotAt yX0_knotAt) ∈ kr_all := kr_in 291 (by decide +kernel) rfl
theorem kq_292 : (Cond.code yX0_knotAt cX0_knotAt 4 (some .int)) ∈ kr_all := kr_in 292 (by decide +kernel) rfl
theorem kq_293 : (Cond.methodLink RX0 113 yX0_knotWithRank) ∈ kr_all := kr_in 293 (by decide +kernel) rfl
theorem kq_295 : (Cond.instanceMethod yX0_knotWithRank) ∈ kr_all := kr_in 295 (by decide +kernel) rfl
theorem kq_296 : (Cond.code yX0_knotWithRank cX0_knotWithRank 4 (some .int)) ∈ kr_all := kr_in 296 (by decide +kernel) rfl
theorem kq_298 : (Cond.methodLink RL 106 yX0_formOf) ∈ kr_all := kr_in 298 (by decide +kernel) rfl
theorem kq_299 : (Cond.instanceMethod yX0_formOf) ∈ kr_all := kr_in 299 (by decide +kernel) rfl
theorem kq_300 : (Cond.selects RX0 yX0_formOf yX0_formOf) ∈ kr_all := kr_in 300 (by decide +kernel) rfl
theorem kq_301 : (Cond.code yX0_formOf cX0_formOf 3 (some .int)) ∈ kr_all := kr_in 301 (by decide +kernel) rfl
theorem kq_302 : (Cond.methodLink RL 115 yX0_spills) ∈ kr_all := kr_in 302 (by decide +kernel) rfl
theorem kq_303 : (Cond.instanceMethod yX0_spills) ∈ kr_all := kr_in 303 (by decide +kernel) rfl
theorem kq_304 : (Cond.selects RX0 yX0_spills yX0_spills) ∈ kr_all := kr_in 304 (by decide +kernel) rfl
theorem kq_305 : (Cond.code yX0_spills cX0_spills 5 (some .int)) ∈ kr_all := kr_in 305 (by decide +kernel) rfl
theorem kq_306 : (Cond.methodLink RL 109 yX0_fallsApartAt) ∈ kr_all := kr_in 306 (by decide +kernel) rfl
theorem kq_307 : (Cond.instanceMethod yX0_fallsApartAt) ∈ kr_all := kr_in 307 (by decide +kernel) rfl
theorem kq_308 : (Cond.selects RX0 yX0_fallsApartAt yX0_fallsApartAt) ∈ kr_all := kr_in 308 (by decide +kernel) rfl
theorem kq_309 : (Cond.code yX0_fallsApartAt cX0_fallsApartAt 5 (some .int)) ∈ kr_all := kr_in 309 (by decide +kernel) rfl
theorem kq_310 : (Cond.methodLink RX0 129 Lib.Math.max.name) ∈ kr_all := kr_in 310 (by decide +kernel) rfl
theorem kq_311 : (Cond.static Lib.Math.max.name) ∈ kr_all := kr_in 311 (by decide +kernel) rfl
theorem kq_312 : (Cond.code Lib.Math.max.name Lib.Math.max.code 2 (some .int)) ∈ kr_all := kr_in 312 (by decide +kernel) rfl
theorem kq_313 : (Cond.methodLink RL 124 yX0_lines) ∈ kr_all := kr_in 313 (by decide +kernel) rfl
theorem kq_314 : (Cond.instanceMethod yX0_lines) ∈ kr_all := kr_in 314 (by decide +kernel) rfl
theorem kq_315 : (Cond.selects RX0 yX0_lines yX0_lines) ∈ kr_all := kr_in 315 (by decide +kernel) rfl
theorem kq_316 : (Cond.code yX0_lines cX0_lines 1 (some .int)) ∈ kr_all := kr_in 316 (by decide +kernel) rfl
theorem kq_317 : (Cond.methodLink RL 130 yX0_ropesOf) ∈ kr_all := kr_in 317 (by decide +kernel) rfl
theorem kq_318 : (Cond.instanceMethod yX0_ropesOf) ∈ kr_all := kr_in 318 (by decide +kernel) rfl
theorem kq_319 : (Cond.selects RX0 yX0_ropesOf yX0_ropesOf) ∈ kr_all := kr_in 319 (by decide +kernel) rfl
theorem kq_320 : (Cond.code yX0_ropesOf cX0_ropesOf 2 (some .int)) ∈ kr_all := kr_in 320 (by decide +kernel) rfl
theorem kq_321 : (Cond.methodLink RL 146 yX0_knotOf) ∈ kr_all := kr_in 321 (by decide +kernel) rfl
theorem kq_322 : (Cond.instanceMethod yX0_knotOf) ∈ kr_all := kr_in 322 (by decide +kernel) rfl
theorem kq_323 : (Cond.selects RX0 yX0_knotOf yX0_knotOf) ∈ kr_all := kr_in 323 (by decide +kernel) rfl
theorem kq_324 : (Cond.code yX0_knotOf cX0_knotOf 3 (some .int)) ∈ kr_all := kr_in 324 (by decide +kernel) rfl
theorem kq_325 : (Cond.methodLink RL 143 yX0_strengthAt) ∈ kr_all := kr_in 325 (by decide +kernel) rfl
theorem kq_326 : (Cond.instanceMethod yX0_strengthAt) ∈ kr_all := kr_in 326 (by decide +kernel) rfl
theorem kq_327 : (Cond.selects RX0 yX0_strengthAt yX0_strengthAt) ∈ kr_all := kr_in 327 (by decide +kernel) rfl
theorem kq_328 : (Cond.code yX0_strengthAt cX0_strengthAt 3 (some .int)) ∈ kr_all := kr_in 328 (by decide +kernel) rfl
theorem kq_329 : (Cond.methodLink RX0 134 yX0_currentStrength) ∈ kr_all := kr_in 329 (by decide +kernel) rfl
theorem kq_331 : (Cond.instanceMethod yX0_currentStrength) ∈ kr_all := kr_in 331 (by decide +kernel) rfl
theorem kq_332 : (Cond.code yX0_currentStrength cX0_currentStrength 3 (some .int)) ∈ kr_all := kr_in 332 (by decide +kernel) rfl
theorem kq_333 : (Cond.methodLink RL 140 yX0_weakestPlace) ∈ kr_all := kr_in 333 (by decide +kernel) rfl
theorem kq_334 : (Cond.instanceMethod yX0_weakestPlace) ∈ kr_all := kr_in 334 (by decide +kernel) rfl
theorem kq_335 : (Cond.selects RX0 yX0_weakestPlace yX0_weakestPlace) ∈ kr_all := kr_in 335 (by decide +kernel) rfl
theorem kq_336 : (Cond.code yX0_weakestPlace cX0_weakestPlace 6 (some .int)) ∈ kr_all := kr_in 336 (by decide +kernel) rfl
theorem kq_337 : (Cond.constant RX0 139 (2147483647 : Int32)) ∈ kr_all := kr_in 337 (by decide +kernel) rfl
theorem kq_338 : (Cond.methodLink RL 133 yX0_holds) ∈ kr_all := kr_in 338 (by decide +kernel) rfl
theorem kq_339 : (Cond.instanceMethod yX0_holds) ∈ kr_all := kr_in 339 (by decide +kernel) rfl
theorem kq_340 : (Cond.selects RX0 yX0_holds yX0_holds) ∈ kr_all := kr_in 340 (by decide +kernel) rfl
theorem kq_341 : (Cond.code yX0_holds cX0_holds 3 (some .boolean)) ∈ kr_all := kr_in 341 (by decide +kernel) rfl
theorem kq_342 : (Cond.methodLink RL 127 yX0_holdsUpTo) ∈ kr_all := kr_in 342 (by decide +kernel) rfl
theorem kq_343 : (Cond.instanceMethod yX0_holdsUpTo) ∈ kr_all := kr_in 343 (by decide +kernel) rfl
theorem kq_344 : (Cond.selects RX0 yX0_holdsUpTo yX0_holdsUpTo) ∈ kr_all := kr_in 344 (by decide +kernel) rfl
theorem kq_345 : (Cond.code yX0_holdsUpTo cX0_holdsUpTo 2 (some .int)) ∈ kr_all := kr_in 345 (by decide +kernel) rfl
theorem kq_346 : (Cond.methodLink RX0 143 yX0_loadHeldWith) ∈ kr_all := kr_in 346 (by decide +kernel) rfl
theorem kq_348 : (Cond.instanceMethod yX0_loadHeldWith) ∈ kr_all := kr_in 348 (by decide +kernel) rfl
theorem kq_349 : (Cond.code yX0_loadHeldWith cX0_loadHeldWith 7 (some .int)) ∈ kr_all := kr_in 349 (by decide +kernel) rfl
theorem kq_350 : (Cond.methodLink RX0 230 yX0_loadHeldAt) ∈ kr_all := kr_in 350 (by decide +kernel) rfl
theorem kq_352 : (Cond.instanceMethod yX0_loadHeldAt) ∈ kr_all := kr_in 352 (by decide +kernel) rfl
theorem kq_353 : (Cond.code yX0_loadHeldAt cX0_loadHeldAt 9 (some .int)) ∈ kr_all := kr_in 353 (by decide +kernel) rfl
theorem kq_354 : (Cond.methodLink RL 137 yX0_wouldGiveWay) ∈ kr_all := kr_in 354 (by decide +kernel) rfl
theorem kq_355 : (Cond.instanceMethod yX0_wouldGiveWay) ∈ kr_all := kr_in 355 (by decide +kernel) rfl
theorem kq_356 : (Cond.selects RX0 yX0_wouldGiveWay yX0_wouldGiveWay) ∈ kr_all := kr_in 356 (by decide +kernel) rfl
theorem kq_357 : (Cond.code yX0_wouldGiveWay cX0_wouldGiveWay 3 (some .int)) ∈ kr_all := kr_in 357 (by decide +kernel) rfl
theorem kq_358 : (Cond.methodLink RL 149 yX0_bestKnot) ∈ kr_all := kr_in 358 (by decide +kernel) rfl
theorem kq_359 : (Cond.instanceMethod yX0_bestKnot) ∈ kr_all := kr_in 359 (by decide +kernel) rfl
theorem kq_360 : (Cond.selects RX0 yX0_bestKnot yX0_bestKnot) ∈ kr_all := kr_in 360 (by decide +kernel) rfl
theorem kq_361 : (Cond.code yX0_bestKnot cX0_bestKnot 10 (some .int)) ∈ kr_all := kr_in 361 (by decide +kernel) rfl
theorem kq_362 : (Cond.methodLink RL 121 yX0_strongestLine) ∈ kr_all := kr_in 362 (by decide +kernel) rfl
theorem kq_363 : (Cond.instanceMethod yX0_strongestLine) ∈ kr_all := kr_in 363 (by decide +kernel) rfl
theorem kq_364 : (Cond.selects RX0 yX0_strongestLine yX0_strongestLine) ∈ kr_all := kr_in 364 (by decide +kernel) rfl
theorem kq_365 : (Cond.code yX0_strongestLine cX0_strongestLine 5 (some .int)) ∈ kr_all := kr_in 365 (by decide +kernel) rfl
theorem kq_366 : (Cond.methodLink RX0 147 yX0_holdsUpTo) ∈ kr_all := kr_in 366 (by decide +kernel) rfl
theorem kq_367 : (Cond.methodLink RL 78 yX0_digest) ∈ kr_all := kr_in 367 (by decide +kernel) rfl
theorem kq_368 : (Cond.instanceMethod yX0_digest) ∈ kr_all := kr_in 368 (by decide +kernel) rfl
theorem kq_369 : (Cond.selects RX0 yX0_digest yX0_digest) ∈ kr_all := kr_in 369 (by decide +kernel) rfl
theorem kq_370 : (Cond.code yX0_digest cX0_digest 4 (some .long)) ∈ kr_all := kr_in 370 (by decide +kernel) rfl
theorem kq_371 : (Cond.constantLong RX0 150 (2063 : Int64)) ∈ kr_all := kr_in 371 (by decide +kernel) rfl
theorem kq_372 : (Cond.methodLink RX0 152 yX0_digestWith) ∈ kr_all := kr_in 372 (by decide +kernel) rfl
theorem kq_373 : (Cond.static yX0_digestWith) ∈ kr_all := kr_in 373 (by decide +kernel) rfl
theorem kq_374 : (Cond.code yX0_digestWith cX0_digestWith 3 (some .long)) ∈ kr_all := kr_in 374 (by decide +kernel) rfl
theorem kq_375 : (Cond.constantLong RX0 199 (31 : Int64)) ∈ kr_all := kr_in 375 (by decide +kernel) rfl
theorem kq_376 : (Cond.methodLink RX0 156 yX0_strongestLine) ∈ kr_all := kr_in 376 (by decide +kernel) rfl
theorem kq_377 : (Cond.methodLink RX0 160 yX0_digestWithKnot) ∈ kr_all := kr_in 377 (by decide +kernel) rfl
theorem kq_379 : (Cond.instanceMethod yX0_digestWithKnot) ∈ kr_all := kr_in 379 (by decide +kernel) rfl
theorem kq_380 : (Cond.code yX0_digestWithKnot cX0_digestWithKnot 6 (some .long)) ∈ kr_all := kr_in 380 (by decide +kernel) rfl
theorem kq_381 : (Cond.methodLink RX0 166 yX0_kindOf) ∈ kr_all := kr_in 381 (by decide +kernel) rfl
theorem kq_382 : (Cond.methodLink RX0 169 yX0_efficiencyOf) ∈ kr_all := kr_in 382 (by decide +kernel) rfl
theorem kq_383 : (Cond.methodLink RX0 172 yX0_crossingsOf) ∈ kr_all := kr_in 383 (by decide +kernel) rfl
theorem kq_384 : (Cond.instanceMethod yX0_crossingsOf) ∈ kr_all := kr_in 384 (by decide +kernel) rfl
theorem kq_385 : (Cond.selects RX0 yX0_crossingsOf yX0_crossingsOf) ∈ kr_all := kr_in 385 (by decide +kernel) rfl
theorem kq_386 : (Cond.code yX0_crossingsOf cX0_crossingsOf 2 (some .int)) ∈ kr_all := kr_in 386 (by decide +kernel) rfl
theorem kq_387 : (Cond.methodLink RX0 175 yX0_spillsAt) ∈ kr_all := kr_in 387 (by decide +kernel) rfl
theorem kq_388 : (Cond.methodLink RX0 178 yX0_spillsInto) ∈ kr_all := kr_in 388 (by decide +kernel) rfl
theorem kq_389 : (Cond.methodLink RX0 181 yX0_rankOf) ∈ kr_all := kr_in 389 (by decide +kernel) rfl
theorem kq_390 : (Cond.methodLink RX0 184 yX0_fallsApartAt) ∈ kr_all := kr_in 390 (by decide +kernel) rfl
theorem kq_391 : (Cond.methodLink RX0 163 yX0_digestWithLine) ∈ kr_all := kr_in 391 (by decide +kernel) rfl
theorem kq_393 : (Cond.instanceMethod yX0_digestWithLine) ∈ kr_all := kr_in 393 (by decide +kernel) rfl
theorem kq_394 : (Cond.code yX0_digestWithLine cX0_digestWithLine 7 (some .long)) ∈ kr_all := kr_in 394 (by decide +kernel) rfl
theorem kq_395 : (Cond.methodLink RX0 187 yX0_ropesOf) ∈ kr_all := kr_in 395 (by decide +kernel) rfl
theorem kq_396 : (Cond.methodLink RX0 190 yX0_weakestPlace) ∈ kr_all := kr_in 396 (by decide +kernel) rfl
theorem kq_397 : (Cond.methodLink RX0 193 yX0_knotOf) ∈ kr_all := kr_in 397 (by decide +kernel) rfl
theorem kq_398 : (Cond.methodLink RX0 196 yX0_strengthAt) ∈ kr_all := kr_in 398 (by decide +kernel) rfl
theorem kq_399 : (Cond.methodLink RL 56 yX1_pull) ∈ kr_all := kr_in 399 (by decide +kernel) rfl
theorem kq_400 : (Cond.instanceMethod yX1_pull) ∈ kr_all := kr_in 400 (by decide +kernel) rfl
theorem kq_401 : (Cond.selects RX1 yX1_pull yX1_pull) ∈ kr_all := kr_in 401 (by decide +kernel) rfl
theorem kq_402 : (Cond.code yX1_pull cX1_pull 5 none) ∈ kr_all := kr_in 402 (by decide +kernel) rfl
theorem kq_403 : (Cond.methodLink RX1 33 yX1_gives) ∈ kr_all := kr_in 403 (by decide +kernel) rfl
theorem kq_404 : (Cond.instanceMethod yX1_gives) ∈ kr_all := kr_in 404 (by decide +kernel) rfl
theorem kq_405 : (Cond.selects RX1 yX1_gives yX1_gives) ∈ kr_all := kr_in 405 (by decide +kernel) rfl
theorem kq_406 : (Cond.code yX1_gives cX1_gives 5 (some .int)) ∈ kr_all := kr_in 406 (by decide +kernel) rfl
theorem kq_407 : (Cond.methodLink RX1 25 yX1_form) ∈ kr_all := kr_in 407 (by decide +kernel) rfl
theorem kq_408 : (Cond.instanceMethod yX1_form) ∈ kr_all := kr_in 408 (by decide +kernel) rfl
theorem kq_409 : (Cond.selects RX1 yX1_form yX1_form) ∈ kr_all := kr_in 409 (by decide +kernel) rfl
theorem kq_410 : (Cond.code yX1_form cX1_form 5 (some (.array .int))) ∈ kr_all := kr_in 410 (by decide +kernel) rfl
theorem kq_411 : (Cond.methodLink RX1 29 yX1_strength) ∈ kr_all := kr_in 411 (by decide +kernel) rfl
theorem kq_412 : (Cond.instanceMethod yX1_strength) ∈ kr_all := kr_in 412 (by decide +kernel) rfl
theorem kq_413 : (Cond.selects RX1 yX1_strength yX1_strength) ∈ kr_all := kr_in 413 (by decide +kernel) rfl
theorem kq_414 : (Cond.code yX1_strength cX1_strength 5 (some .int)) ∈ kr_all := kr_in 414 (by decide +kernel) rfl
theorem kq_415 : (Cond.methodLink RX1 37 yX1_first) ∈ kr_all := kr_in 415 (by decide +kernel) rfl
theorem kq_416 : (Cond.static yX1_first) ∈ kr_all := kr_in 416 (by decide +kernel) rfl
theorem kq_417 : (Cond.code yX1_first cX1_first 4 (some (.array .int))) ∈ kr_all := kr_in 417 (by decide +kernel) rfl
theorem kq_418 : (Cond.methodLink RL 152 yX1_isSame) ∈ kr_all := kr_in 418 (by decide +kernel) rfl
theorem kq_419 : (Cond.instanceMethod yX1_isSame) ∈ kr_all := kr_in 419 (by decide +kernel) rfl
theorem kq_420 : (Cond.selects RX1 yX1_isSame yX1_isSame) ∈ kr_all := kr_in 420 (by decide +kernel) rfl
theorem kq_421 : (Cond.code yX1_isSame cX1_isSame 6 (some .boolean)) ∈ kr_all := kr_in 421 (by decide +kernel) rfl
theorem kq_422 : (Cond.methodLink RX1 41 yX0_kindOf) ∈ kr_all := kr_in 422 (by decide +kernel) rfl
theorem kq_423 : (Cond.methodLink RX1 46 yX0_efficiencyOf) ∈ kr_all := kr_in 423 (by decide +kernel) rfl
theorem kq_424 : (Cond.methodLink RX1 49 yX0_crossingsOf) ∈ kr_all := kr_in 424 (by decide +kernel) rfl
theorem kq_425 : (Cond.methodLink RX1 52 yX0_spillsAt) ∈ kr_all := kr_in 425 (by decide +kernel) rfl
theorem kq_426 : (Cond.methodLink RX1 55 yX0_spillsInto) ∈ kr_all := kr_in 426 (by decide +kernel) rfl
theorem kq_427 : (Cond.methodLink RX1 58 yX0_rankOf) ∈ kr_all := kr_in 427 (by decide +kernel) rfl
theorem kq_428 : (Cond.methodLink RX1 61 yX1_rank) ∈ kr_all := kr_in 428 (by decide +kernel) rfl
theorem kq_429 : (Cond.instanceMethod yX1_rank) ∈ kr_all := kr_in 429 (by decide +kernel) rfl
theorem kq_430 : (Cond.selects RX1 yX1_rank yX1_rank) ∈ kr_all := kr_in 430 (by decide +kernel) rfl
theorem kq_431 : (Cond.code yX1_rank cX1_rank 4 (some .int)) ∈ kr_all := kr_in 431 (by decide +kernel) rfl
theorem kq_432 : (Cond.methodLink RX1 21 yX1_worth) ∈ kr_all := kr_in 432 (by decide +kernel) rfl
theorem kq_434 : (Cond.instanceMethod yX1_worth) ∈ kr_all := kr_in 434 (by decide +kernel) rfl
theorem kq_435 : (Cond.instantiable RX1 3) ∈ kr_all := kr_in 435 (by decide +kernel) rfl
theorem kq_436 : (Cond.code yX1_worth cX1_worth 2 (some .int)) ∈ kr_all := kr_in 436 (by decide +kernel) rfl
theorem kq_437 : (Cond.methodLink RX1 64 yX0_knotAt) ∈ kr_all := kr_in 437 (by decide +kernel) rfl
theorem kq_438 : (Cond.methodLink RX1 67 yX0_ropesOf) ∈ kr_all := kr_in 438 (by decide +kernel) rfl
theorem kq_439 : (Cond.methodLink RX1 70 yX0_weakestPlace) ∈ kr_all := kr_in 439 (by decide +kernel) rfl
theorem kq_440 : (Cond.methodLink RX1 73 yX1_weakest) ∈ kr_all := kr_in 440 (by decide +kernel) rfl
theorem kq_441 : (Cond.instanceMethod yX1_weakest) ∈ kr_all := kr_in 441 (by decide +kernel) rfl
theorem kq_442 : (Cond.selects RX1 yX1_weakest yX1_weakest) ∈ kr_all := kr_in 442 (by decide +kernel) rfl
theorem kq_443 : (Cond.code yX1_weakest cX1_weakest 4 (some .int)) ∈ kr_all := kr_in 443 (by decide +kernel) rfl
theorem kq_444 : (Cond.methodLink RX1 76 yX0_knotOf) ∈ kr_all := kr_in 444 (by decide +kernel) rfl
theorem kq_445 : (Cond.methodLink RX1 79 yX0_strengthAt) ∈ kr_all := kr_in 445 (by decide +kernel) rfl
theorem kq_446 : (Cond.methodLink RX1 82 yX0_knots) ∈ kr_all := kr_in 446 (by decide +kernel) rfl
theorem kq_447 : (Cond.methodLink RX1 85 yX0_knotsOf) ∈ kr_all := kr_in 447 (by decide +kernel) rfl
theorem kq_448 : (Cond.methodLink RX1 88 yX0_lines) ∈ kr_all := kr_in 448 (by decide +kernel) rfl
theorem kq_449 : (Cond.methodLink RX1 91 yX0_meanEfficiency) ∈ kr_all := kr_in 449 (by decide +kernel) rfl
theorem kq_450 : (Cond.instanceMethod yX0_meanEfficiency) ∈ kr_all := kr_in 450 (by decide +kernel) rfl
theorem kq_451 : (Cond.selects RX0 yX0_meanEfficiency yX0_meanEfficiency) ∈ kr_all := kr_in 451 (by decide +kernel) rfl
theorem kq_452 : (Cond.code yX0_meanEfficiency cX0_meanEfficiency 3 (some .double)) ∈ kr_all := kr_in 452 (by decide +kernel) rfl
theorem kq_453 : (Cond.methodLink RL 18 yL_below) ∈ kr_all := kr_in 453 (by decide +kernel) rfl
theorem kq_454 : (Cond.static yL_below) ∈ kr_all := kr_in 454 (by decide +kernel) rfl
theorem kq_455 : (Cond.code yL_below cL_below 2 (some .int)) ∈ kr_all := kr_in 455 (by decide +kernel) rfl
theorem kq_456 : (Cond.constant RL 7 (2147483647 : Int32)) ∈ kr_all := kr_in 456 (by decide +kernel) rfl
theorem kq_457 : (Cond.methodLink RL 65 yL_cell) ∈ kr_all := kr_in 457 (by decide +kernel) rfl
theorem kq_458 : (Cond.static yL_cell) ∈ kr_all := kr_in 458 (by decide +kernel) rfl
theorem kq_459 : (Cond.code yL_cell cL_cell 2 (some .int)) ∈ kr_all := kr_in 459 (by decide +kernel) rfl
theorem kq_460 : (Cond.constant RL 8 (790386105 : Int32)) ∈ kr_all := kr_in 460 (by decide +kernel) rfl
theorem kq_461 : (Cond.methodLink RL 74 yL_act) ∈ kr_all := kr_in 461 (by decide +kernel) rfl
theorem kq_462 : (Cond.static yL_act) ∈ kr_all := kr_in 462 (by decide +kernel) rfl
theorem kr_w463 : lw_tbl[463]? = some (Cond.codeWith yL_act cL_act 10 (some .boolean) [(91, 259, 842, 62), (260, 265, 842, 62), (266, 366, 842, 62), (367, 384, 842, 62), (385, 473, 842, 62), (474, 500, 842, 62), (501, 627, 842, 62), (628, 648, 842, 62), (649, 691, 842, 62), (692, 736, 842, 62), (737, 746, 842, 62), (747, 841, 842, 62)]) := by
  set_option maxRecDepth 100000 in
  exact (Eq.refl _)
theorem kq_463 : (Cond.codeWith yL_act cL_act 10 (some .boolean) [(91, 259, 842, 62), (260, 265, 842, 62), (266, 366, 842, 62), (367, 384, 842, 62), (385, 473, 842, 62), (474, 500, 842, 62), (501, 627, 842, 62), (628, 648, 842, 62), (649, 691, 842, 62), (692, 736, 842, 62), (737, 746, 842, 62), (747, 841, 842, 62)]) ∈ kr_all := kr_in 463 kr_w463 rfl
theorem kq_464 : (Cond.classLink RL 62 "java/lang/IllegalStateException") ∈ kr_all := kr_in 464 (by decide +kernel) rfl
theorem kq_465 : (Cond.methodLink RL 24 yX1_with) ∈ kr_all := kr_in 465 (by decide +kernel) rfl
theorem kq_466 : (Cond.static yX1_with) ∈ kr_all := kr_in 466 (by decide +kernel) rfl
theorem kq_467 : (Cond.code yX1_with cX1_with 4 (some (.array (.array .int)))) ∈ kr_all := kr_in 467 (by decide +kernel) rfl
theorem kq_468 : (Cond.classLink RX1 7 "[I") ∈ kr_all := kr_in 468 (by decide +kernel) rfl
theorem kq_470 : (Cond.methodLink RL 28 yX0_addKnot) ∈ kr_all := kr_in 470 (by decide +kernel) rfl
theorem kq_471 : (Cond.instanceMethod yX0_addKnot) ∈ kr_all := kr_in 471 (by decide +kernel) rfl
theorem kq_472 : (Cond.selects RX0 yX0_addKnot yX0_addKnot) ∈ kr_all := kr_in 472 (by decide +kernel) rfl
theorem kq_473 : (Cond.code yX0_addKnot cX0_addKnot 5 (some .int)) ∈ kr_all := kr_in 473 (by decide +kernel) rfl
theorem kq_477 : (Cond.methodLink RL 34 yX0_setSpill) ∈ kr_all := kr_in 477 (by decide +kernel) rfl
theorem kq_478 : (Cond.instanceMethod yX0_setSpill) ∈ kr_all := kr_in 478 (by decide +kernel) rfl
theorem kq_479 : (Cond.selects RX0 yX0_setSpill yX0_setSpill) ∈ kr_all := kr_in 479 (by decide +kernel) rfl
theorem kq_480 : (Cond.code yX0_setSpill cX0_setSpill 5 (some .int)) ∈ kr_all := kr_in 480 (by decide +kernel) rfl
theorem kq_483 : (Cond.methodLink RL 40 yX0_tie) ∈ kr_all := kr_in 483 (by decide +kernel) rfl
theorem kq_484 : (Cond.instanceMethod yX0_tie) ∈ kr_all := kr_in 484 (by decide +kernel) rfl
theorem kq_485 : (Cond.selects RX0 yX0_tie yX0_tie) ∈ kr_all := kr_in 485 (by decide +kernel) rfl
theorem kq_486 : (Cond.code yX0_tie cX0_tie 4 (some .int)) ∈ kr_all := kr_in 486 (by decide +kernel) rfl
theorem kq_487 : (Cond.methodLink RX0 73 yX0_checkStrength) ∈ kr_all := kr_in 487 (by decide +kernel) rfl
theorem kq_488 : (Cond.static yX0_checkStrength) ∈ kr_all := kr_in 488 (by decide +kernel) rfl
theorem kq_489 : (Cond.code yX0_checkStrength cX0_checkStrength 1 none) ∈ kr_all := kr_in 489 (by decide +kernel) rfl
theorem kq_492 : (Cond.methodLink RX0 78 yX0_appendRope) ∈ kr_all := kr_in 492 (by decide +kernel) rfl
theorem kq_494 : (Cond.instanceMethod yX0_appendRope) ∈ kr_all := kr_in 494 (by decide +kernel) rfl
theorem kq_495 : (Cond.code yX0_appendRope cX0_appendRope 5 none) ∈ kr_all := kr_in 495 (by decide +kernel) rfl
theorem kq_496 : (Cond.methodLink RL 43 yX1_first) ∈ kr_all := kr_in 496 (by decide +kernel) rfl
theorem kq_497 : (Cond.methodLink RL 47 yX0_join) ∈ kr_all := kr_in 497 (by decide +kernel) rfl
theorem kq_498 : (Cond.instanceMethod yX0_join) ∈ kr_all := kr_in 498 (by decide +kernel) rfl
theorem kq_499 : (Cond.selects RX0 yX0_join yX0_join) ∈ kr_all := kr_in 499 (by decide +kernel) rfl
theorem kq_500 : (Cond.code yX0_join cX0_join 4 (some .int)) ∈ kr_all := kr_in 500 (by decide +kernel) rfl
theorem kq_502 : (Cond.methodLink RL 53 yX1_gives) ∈ kr_all := kr_in 502 (by decide +kernel) rfl
theorem kq_503 : (Cond.methodLink RL 70 yL_build) ∈ kr_all := kr_in 503 (by decide +kernel) rfl
theorem kq_504 : (Cond.static yL_build) ∈ kr_all := kr_in 504 (by decide +kernel) rfl
theorem kq_505 : (Cond.code yL_build cL_build 9 (some (.object "KnotRackLaw$Sim"))) ∈ kr_all := kr_in 505 (by decide +kernel) rfl
theorem kq_506 : (Cond.classLink RL 10 "KnotRackLaw$Sim") ∈ kr_all := kr_in 506 (by decide +kernel) rfl
theorem kq_508 : (Cond.instanceMethod yX1_init) ∈ kr_all := kr_in 508 (by decide +kernel) rfl
theorem kq_509 : (Cond.code yX1_init cX1_init 1 none) ∈ kr_all := kr_in 509 (by decide +kernel) rfl
theorem kq_510 : (Cond.methodLink RX1 1 objectInit) ∈ kr_all := kr_in 510 (by decide +kernel) rfl
theorem kq_511 : (Cond.fieldLink RX1 9 "KnotRackLaw$Sim" "knots" "[[I") ∈ kr_all := kr_in 511 (by decide +kernel) rfl
theorem kq_512 : (Cond.fieldLink RL 9 "KnotRackLaw$Sim" "knots" "[[I") ∈ kr_all := kr_in 512 (by decide +kernel) rfl
theorem kq_513 : (Cond.fieldLink RX1 15 "KnotRackLaw$Sim" "ropes" "[[I") ∈ kr_all := kr_in 513 (by decide +kernel) rfl
theorem kq_514 : (Cond.fieldLink RL 15 "KnotRackLaw$Sim" "ropes" "[[I") ∈ kr_all := kr_in 514 (by decide +kernel) rfl
theorem kq_515 : (Cond.fieldLink RX1 18 "KnotRackLaw$Sim" "tied" "[[I") ∈ kr_all := kr_in 515 (by decide +kernel) rfl
theorem kq_516 : (Cond.fieldLink RL 37 "KnotRackLaw$Sim" "tied" "[[I") ∈ kr_all := kr_in 516 (by decide +kernel) rfl
theorem kq_524 : (Cond.methodLink RL 101 Lib.Math.min.name) ∈ kr_all := kr_in 524 (by decide +kernel) rfl
theorem kr_wsX0 : ∀ w ∈ wsX00, w ∈ kr_all := by
  have h : wsX00 = [52, 54, 56, 58, 60, 62, 64, 66, 68, 70].filterMap (fun i => lw_tbl[i]?) := by decide +kernel
  have g : wsX00.all goodWord = true := by decide +kernel
  intro w hw
  have g1 := List.all_eq_true.mp g w hw
  rw [h] at hw
  obtain ⟨i, -, hi⟩ := List.mem_filterMap.mp hw
  exact List.mem_filter.mpr ⟨List.mem_of_getElem? hi, g1⟩
theorem kr_wsX1 : ∀ w ∈ wsX10, w ∈ kr_all := by
  have h : wsX10 = [517, 519, 521].filterMap (fun i => lw_tbl[i]?) := by decide +kernel
  have g : wsX10.all goodWord = true := by decide +kernel
  intro w hw
  have g1 := List.all_eq_true.mp g w hw
  rw [h] at hw
  obtain ⟨i, -, hi⟩ := List.mem_filterMap.mp hw
  exact List.mem_filter.mpr ⟨List.mem_of_getElem? hi, g1⟩
end
section
theorem dX0_init_0 : decode cX0_init 0 = .ok (.aload_n 0, 1) := by decide +kernel
theorem dX0_init_1 : decode cX0_init 1 = .ok (.invokespecial 1, 3) := by decide +kernel
theorem dX0_init_4 : decode cX0_init 4 = .ok (.aload_n 0, 1) := by decide +kernel
theorem dX0_init_5 : decode cX0_init 5 = .ok (.bipush 16, 2) := by decide +kernel
theorem dX0_init_7 : decode cX0_init 7 = .ok (.newarray .int, 2) := by decide +kernel
theorem dX0_init_9 : decode cX0_init 9 = .ok (.putfield 9, 3) := by decide +kernel
theorem dX0_init_12 : decode cX0_init 12 = .ok (.aload_n 0, 1) := by decide +kernel
theorem dX0_init_13 : decode cX0_init 13 = .ok (.bipush 16, 2) := by decide +kernel
theorem dX0_init_15 : decode cX0_init 15 = .ok (.newarray .int, 2) := by decide +kernel
theorem dX0_init_17 : decode cX0_init 17 = .ok (.putfield 13, 3) := by decide +kernel
theorem dX0_init_20 : decode cX0_init 20 = .ok (.aload_n 0, 1) := by decide +kernel
theorem dX0_init_21 : decode cX0_init 21 = .ok (.bipush 16, 2) := by decide +kernel
theorem dX0_init_23 : decode cX0_init 23 = .ok (.newarray .int, 2) := by decide +kernel
theorem dX0_init_25 : decode cX0_init 25 = .ok (.putfield 16, 3) := by decide +kernel
theorem dX0_init_28 : decode cX0_init 28 = .ok (.aload_n 0, 1) := by decide +kernel
theorem dX0_init_29 : decode cX0_init 29 = .ok (.bipush 16, 2) := by decide +kernel
theorem dX0_init_31 : decode cX0_init 31 = .ok (.newarray .int, 2) := by decide +kernel
theorem dX0_init_33 : decode cX0_init 33 = .ok (.putfield 19, 3) := by decide +kernel
theorem dX0_init_36 : decode cX0_init 36 = .ok (.aload_n 0, 1) := by decide +kernel
theorem dX0_init_37 : decode cX0_init 37 = .ok (.bipush 16, 2) := by decide +kernel
theorem dX0_init_39 : decode cX0_init 39 = .ok (.newarray .int, 2) := by decide +kernel
theorem dX0_init_41 : decode cX0_init 41 = .ok (.putfield 22, 3) := by decide +kernel
theorem dX0_init_44 : decode cX0_init 44 = .ok (.aload_n 0, 1) := by decide +kernel
theorem dX0_init_45 : decode cX0_init 45 = .ok (.iconst 0, 1) := by decide +kernel
theorem dX0_init_46 : decode cX0_init 46 = .ok (.putfield 25, 3) := by decide +kernel
theorem dX0_init_49 : decode cX0_init 49 = .ok (.aload_n 0, 1) := by decide +kernel
theorem dX0_init_50 : decode cX0_init 50 = .ok (.bipush 6, 2) := by decide +kernel
theorem dX0_init_52 : decode cX0_init 52 = .ok (.newarray .int, 2) := by decide +kernel
theorem dX0_init_54 : decode cX0_init 54 = .ok (.putfield 29, 3) := by decide +kernel
theorem dX0_init_57 : decode cX0_init 57 = .ok (.aload_n 0, 1) := by decide +kernel
theorem dX0_init_58 : decode cX0_init 58 = .ok (.iconst 0, 1) := by decide +kernel
theorem dX0_init_59 : decode cX0_init 59 = .ok (.putfield 32, 3) := by decide +kernel
theorem dX0_init_62 : decode cX0_init 62 = .ok (.aload_n 0, 1) := by decide +kernel
theorem dX0_init_63 : decode cX0_init 63 = .ok (.bipush 30, 2) := by decide +kernel
theorem dX0_init_65 : decode cX0_init 65 = .ok (.newarray .int, 2) := by decide +kernel
theorem dX0_init_67 : decode cX0_init 67 = .ok (.putfield 35, 3) := by decide +kernel
theorem dX0_init_70 : decode cX0_init 70 = .ok (.aload_n 0, 1) := by decide +kernel
theorem dX0_init_71 : decode cX0_init 71 = .ok (.bipush 30, 2) := by decide +kernel
theorem dX0_init_73 : decode cX0_init 73 = .ok (.newarray .int, 2) := by decide +kernel
theorem dX0_init_75 : decode cX0_init 75 = .ok (.putfield 38, 3) := by decide +kernel
theorem dX0_init_78 : decode cX0_init 78 = .ok (.return_, 1) := by decide +kernel
theorem dX0_addKnot_0 : decode cX0_addKnot 0 = .ok (.iload_n 1, 1) := by decide +kernel
theorem dX0_addKnot_1 : decode cX0_addKnot 1 = .ok (.invokestatic 41, 3) := by decide +kernel
theorem dX0_addKnot_4 : decode cX0_addKnot 4 = .ok (.iload_n 2, 1) := by decide +kernel
theorem dX0_addKnot_5 : decode cX0_addKnot 5 = .ok (.bipush 10, 2) := by decide +kernel
theorem dX0_addKnot_7 : decode cX0_addKnot 7 = .ok (.if_icmp .lt 9, 3) := by decide +kernel
theorem dX0_addKnot_10 : decode cX0_addKnot 10 = .ok (.iload_n 2, 1) := by decide +kernel
theorem dX0_addKnot_11 : decode cX0_addKnot 11 = .ok (.bipush 100, 2) := by decide +kernel
theorem dX0_addKnot_13 : decode cX0_addKnot 13 = .ok (.if_icmp .le 13, 3) := by decide +kernel
theorem dX0_addKnot_16 : decode cX0_addKnot 16 = .ok (.new 45, 3) := by decide +kernel
theorem dX0_addKnot_19 : decode cX0_addKnot 19 = .ok (.dup, 1) := by decide +kernel
theorem dX0_addKnot_20 : decode cX0_addKnot 20 = .ok (.ldc 47, 2) := by decide +kernel
theorem dX0_addKnot_22 : decode cX0_addKnot 22 = .ok (.invokespecial 49, 3) := by decide +kernel
theorem dX0_addKnot_25 : decode cX0_addKnot 25 = .ok (.athrow, 1) := by decide +kernel
theorem dX0_addKnot_26 : decode cX0_addKnot 26 = .ok (.iload_n 3, 1) := by decide +kernel
theorem dX0_addKnot_27 : decode cX0_addKnot 27 = .ok (.iconst 1, 1) := by decide +kernel
theorem dX0_addKnot_28 : decode cX0_addKnot 28 = .ok (.if_icmp .lt 9, 3) := by decide +kernel
theorem dX0_addKnot_31 : decode cX0_addKnot 31 = .ok (.iload_n 3, 1) := by decide +kernel
theorem dX0_addKnot_32 : decode cX0_addKnot 32 = .ok (.bipush 9, 2) := by decide +kernel
theorem dX0_addKnot_34 : decode cX0_addKnot 34 = .ok (.if_icmp .le 13, 3) := by decide +kernel
theorem dX0_addKnot_37 : decode cX0_addKnot 37 = .ok (.new 45, 3) := by decide +kernel
theorem dX0_addKnot_40 : decode cX0_addKnot 40 = .ok (.dup, 1) := by decide +kernel
theorem dX0_addKnot_41 : decode cX0_addKnot 41 = .ok (.ldc 52, 2) := by decide +kernel
theorem dX0_addKnot_43 : decode cX0_addKnot 43 = .ok (.invokespecial 49, 3) := by decide +kernel
theorem dX0_addKnot_46 : decode cX0_addKnot 46 = .ok (.athrow, 1) := by decide +kernel
theorem dX0_addKnot_47 : decode cX0_addKnot 47 = .ok (.aload_n 0, 1) := by decide +kernel
theorem dX0_addKnot_48 : decode cX0_addKnot 48 = .ok (.getfield 25, 3) := by decide +kernel
theorem dX0_addKnot_51 : decode cX0_addKnot 51 = .ok (.bipush 16, 2) := by decide +kernel
theorem dX0_addKnot_53 : decode cX0_addKnot 53 = .ok (.if_icmp .lt 13, 3) := by decide +kernel
theorem dX0_addKnot_56 : decode cX0_addKnot 56 = .ok (.new 54, 3) := by decide +kernel
theorem dX0_addKnot_59 : decode cX0_addKnot 59 = .ok (.dup, 1) := by decide +kernel
theorem dX0_addKnot_60 : decode cX0_addKnot 60 = .ok (.ldc 56, 2) := by decide +kernel
theorem dX0_addKnot_62 : decode cX0_addKnot 62 = .ok (.invokespecial 58, 3) := by decide +kernel
theorem dX0_addKnot_65 : decode cX0_addKnot 65 = .ok (.athrow, 1) := by decide +kernel
theorem dX0_addKnot_66 : decode cX0_addKnot 66 = .ok (.aload_n 0, 1) := by decide +kernel
theorem dX0_addKnot_67 : decode cX0_addKnot 67 = .ok (.getfield 25, 3) := by decide +kernel
theorem dX0_addKnot_70 : decode cX0_addKnot 70 = .ok (.istore 4, 2) := by decide +kernel
theorem dX0_addKnot_72 : decode cX0_addKnot 72 = .ok (.aload_n 0, 1) := by decide +kernel
theorem dX0_addKnot_73 : decode cX0_addKnot 73 = .ok (.getfield 9, 3) := by decide +kernel
theorem dX0_addKnot_76 : decode cX0_addKnot 76 = .ok (.iload 4, 2) := by decide +kernel
theorem dX0_addKnot_78 : decode cX0_addKnot 78 = .ok (.iload_n 1, 1) := by decide +kernel
theorem dX0_addKnot_79 : decode cX0_addKnot 79 = .ok (.iastore, 1) := by decide +kernel
theorem dX0_addKnot_80 : decode cX0_addKnot 80 = .ok (.aload_n 0, 1) := by decide +kernel
theorem dX0_addKnot_81 : decode cX0_addKnot 81 = .ok (.getfield 13, 3) := by decide +kernel
theorem dX0_addKnot_84 : decode cX0_addKnot 84 = .ok (.iload 4, 2) := by decide +kernel
theorem dX0_addKnot_86 : decode cX0_addKnot 86 = .ok (.iload_n 2, 1) := by decide +kernel
theorem dX0_addKnot_87 : decode cX0_addKnot 87 = .ok (.iastore, 1) := by decide +kernel
theorem dX0_addKnot_88 : decode cX0_addKnot 88 = .ok (.aload_n 0, 1) := by decide +kernel
theorem dX0_addKnot_89 : decode cX0_addKnot 89 = .ok (.getfield 16, 3) := by decide +kernel
theorem dX0_addKnot_92 : decode cX0_addKnot 92 = .ok (.iload 4, 2) := by decide +kernel
theorem dX0_addKnot_94 : decode cX0_addKnot 94 = .ok (.iload_n 3, 1) := by decide +kernel
theorem dX0_addKnot_95 : decode cX0_addKnot 95 = .ok (.iastore, 1) := by decide +kernel
theorem dX0_addKnot_96 : decode cX0_addKnot 96 = .ok (.aload_n 0, 1) := by decide +kernel
theorem dX0_addKnot_97 : decode cX0_addKnot 97 = .ok (.getfield 19, 3) := by decide +kernel
theorem dX0_addKnot_100 : decode cX0_addKnot 100 = .ok (.iload 4, 2) := by decide +kernel
theorem dX0_addKnot_102 : decode cX0_addKnot 102 = .ok (.iconst 0, 1) := by decide +kernel
theorem dX0_addKnot_103 : decode cX0_addKnot 103 = .ok (.iastore, 1) := by decide +kernel
theorem dX0_addKnot_104 : decode cX0_addKnot 104 = .ok (.aload_n 0, 1) := by decide +kernel
theorem dX0_addKnot_105 : decode cX0_addKnot 105 = .ok (.getfield 22, 3) := by decide +kernel
theorem dX0_addKnot_108 : decode cX0_addKnot 108 = .ok (.iload 4, 2) := by decide +kernel
theorem dX0_addKnot_110 : decode cX0_addKnot 110 = .ok (.iconst (-1), 1) := by decide +kernel
theorem dX0_addKnot_111 : decode cX0_addKnot 111 = .ok (.iastore, 1) := by decide +kernel
theorem dX0_addKnot_112 : decode cX0_addKnot 112 = .ok (.aload_n 0, 1) := by decide +kernel
theorem dX0_addKnot_113 : decode cX0_addKnot 113 = .ok (.iload 4, 2) := by decide +kernel
theorem dX0_addKnot_115 : decode cX0_addKnot 115 = .ok (.iconst 1, 1) := by decide +kernel
theorem dX0_addKnot_116 : decode cX0_addKnot 116 = .ok (.iadd, 1) := by decide +kernel
theorem dX0_addKnot_117 : decode cX0_addKnot 117 = .ok (.putfield 25, 3) := by decide +kernel
theorem dX0_addKnot_120 : decode cX0_addKnot 120 = .ok (.iload 4, 2) := by decide +kernel
theorem dX0_addKnot_122 : decode cX0_addKnot 122 = .ok (.ireturn, 1) := by decide +kernel
theorem dX0_setSpill_0 : decode cX0_setSpill 0 = .ok (.aload_n 0, 1) := by decide +kernel
theorem dX0_setSpill_1 : decode cX0_setSpill 1 = .ok (.iload_n 1, 1) := by decide +kernel
theorem dX0_setSpill_2 : decode cX0_setSpill 2 = .ok (.invokevirtual 59, 3) := by decide +kernel
theorem dX0_setSpill_5 : decode cX0_setSpill 5 = .ok (.iload_n 2, 1) := by decide +kernel
theorem dX0_setSpill_6 : decode cX0_setSpill 6 = .ok (.invokestatic 62, 3) := by decide +kernel
theorem dX0_setSpill_9 : decode cX0_setSpill 9 = .ok (.iload_n 3, 1) := by decide +kernel
theorem dX0_setSpill_10 : decode cX0_setSpill 10 = .ok (.iconst (-1), 1) := by decide +kernel
theorem dX0_setSpill_11 : decode cX0_setSpill 11 = .ok (.if_icmp .lt 8, 3) := by decide +kernel
theorem dX0_setSpill_14 : decode cX0_setSpill 14 = .ok (.iload_n 3, 1) := by decide +kernel
theorem dX0_setSpill_15 : decode cX0_setSpill 15 = .ok (.iload_n 1, 1) := by decide +kernel
theorem dX0_setSpill_16 : decode cX0_setSpill 16 = .ok (.if_icmp .lt 13, 3) := by decide +kernel
theorem dX0_setSpill_19 : decode cX0_setSpill 19 = .ok (.new 45, 3) := by decide +kernel
theorem dX0_setSpill_22 : decode cX0_setSpill 22 = .ok (.dup, 1) := by decide +kernel
theorem dX0_setSpill_23 : decode cX0_setSpill 23 = .ok (.ldc 65, 2) := by decide +kernel
theorem dX0_setSpill_25 : decode cX0_setSpill 25 = .ok (.invokespecial 49, 3) := by decide +kernel
theorem dX0_setSpill_28 : decode cX0_setSpill 28 = .ok (.athrow, 1) := by decide +kernel
theorem dX0_setSpill_29 : decode cX0_setSpill 29 = .ok (.iload_n 3, 1) := by decide +kernel
theorem dX0_setSpill_30 : decode cX0_setSpill 30 = .ok (.iconst (-1), 1) := by decide +kernel
theorem dX0_setSpill_31 : decode cX0_setSpill 31 = .ok (.if_icmp .eq 28, 3) := by decide +kernel
theorem dX0_setSpill_34 : decode cX0_setSpill 34 = .ok (.aload_n 0, 1) := by decide +kernel
theorem dX0_setSpill_35 : decode cX0_setSpill 35 = .ok (.getfield 9, 3) := by decide +kernel
theorem dX0_setSpill_38 : decode cX0_setSpill 38 = .ok (.iload_n 3, 1) := by decide +kernel
theorem dX0_setSpill_39 : decode cX0_setSpill 39 = .ok (.iaload, 1) := by decide +kernel
theorem dX0_setSpill_40 : decode cX0_setSpill 40 = .ok (.aload_n 0, 1) := by decide +kernel
theorem dX0_setSpill_41 : decode cX0_setSpill 41 = .ok (.getfield 9, 3) := by decide +kernel
theorem dX0_setSpill_44 : decode cX0_setSpill 44 = .ok (.iload_n 1, 1) := by decide +kernel
theorem dX0_setSpill_45 : decode cX0_setSpill 45 = .ok (.iaload, 1) := by decide +kernel
theorem dX0_setSpill_46 : decode cX0_setSpill 46 = .ok (.if_icmp .eq 13, 3) := by decide +kernel
theorem dX0_setSpill_49 : decode cX0_setSpill 49 = .ok (.new 45, 3) := by decide +kernel
theorem dX0_setSpill_52 : decode cX0_setSpill 52 = .ok (.dup, 1) := by decide +kernel
theorem dX0_setSpill_53 : decode cX0_setSpill 53 = .ok (.ldc 67, 2) := by decide +kernel
theorem dX0_setSpill_55 : decode cX0_setSpill 55 = .ok (.invokespecial 49, 3) := by decide +kernel
theorem dX0_setSpill_58 : decode cX0_setSpill 58 = .ok (.athrow, 1) := by decide +kernel
theorem dX0_setSpill_59 : decode cX0_setSpill 59 = .ok (.aload_n 0, 1) := by decide +kernel
theorem dX0_setSpill_60 : decode cX0_setSpill 60 = .ok (.getfield 19, 3) := by decide +kernel
theorem dX0_setSpill_63 : decode cX0_setSpill 63 = .ok (.iload_n 1, 1) := by decide +kernel
theorem dX0_setSpill_64 : decode cX0_setSpill 64 = .ok (.iaload, 1) := by decide +kernel
theorem dX0_setSpill_65 : decode cX0_setSpill 65 = .ok (.istore 4, 2) := by decide +kernel
theorem dX0_setSpill_67 : decode cX0_setSpill 67 = .ok (.aload_n 0, 1) := by decide +kernel
theorem dX0_setSpill_68 : decode cX0_setSpill 68 = .ok (.getfield 19, 3) := by decide +kernel
theorem dX0_setSpill_71 : decode cX0_setSpill 71 = .ok (.iload_n 1, 1) := by decide +kernel
theorem dX0_setSpill_72 : decode cX0_setSpill 72 = .ok (.iload_n 2, 1) := by decide +kernel
theorem dX0_setSpill_73 : decode cX0_setSpill 73 = .ok (.iastore, 1) := by decide +kernel
theorem dX0_setSpill_74 : decode cX0_setSpill 74 = .ok (.aload_n 0, 1) := by decide +kernel
theorem dX0_setSpill_75 : decode cX0_setSpill 75 = .ok (.getfield 22, 3) := by decide +kernel
theorem dX0_setSpill_78 : decode cX0_setSpill 78 = .ok (.iload_n 1, 1) := by decide +kernel
theorem dX0_setSpill_79 : decode cX0_setSpill 79 = .ok (.iload_n 3, 1) := by decide +kernel
theorem dX0_setSpill_80 : decode cX0_setSpill 80 = .ok (.iastore, 1) := by decide +kernel
theorem dX0_setSpill_81 : decode cX0_setSpill 81 = .ok (.iload 4, 2) := by decide +kernel
theorem dX0_setSpill_83 : decode cX0_setSpill 83 = .ok (.ireturn, 1) := by decide +kernel
theorem dX0_tie_0 : decode cX0_tie 0 = .ok (.aload_n 0, 1) := by decide +kernel
theorem dX0_tie_1 : decode cX0_tie 1 = .ok (.iload_n 1, 1) := by decide +kernel
theorem dX0_tie_2 : decode cX0_tie 2 = .ok (.invokevirtual 59, 3) := by decide +kernel
theorem dX0_tie_5 : decode cX0_tie 5 = .ok (.aload_n 0, 1) := by decide +kernel
theorem dX0_tie_6 : decode cX0_tie 6 = .ok (.iload_n 1, 1) := by decide +kernel
theorem dX0_tie_7 : decode cX0_tie 7 = .ok (.iconst 1, 1) := by decide +kernel
theorem dX0_tie_8 : decode cX0_tie 8 = .ok (.invokevirtual 69, 3) := by decide +kernel
theorem dX0_tie_11 : decode cX0_tie 11 = .ok (.iload_n 2, 1) := by decide +kernel
theorem dX0_tie_12 : decode cX0_tie 12 = .ok (.invokestatic 73, 3) := by decide +kernel
theorem dX0_tie_15 : decode cX0_tie 15 = .ok (.aload_n 0, 1) := by decide +kernel
theorem dX0_tie_16 : decode cX0_tie 16 = .ok (.getfield 32, 3) := by decide +kernel
theorem dX0_tie_19 : decode cX0_tie 19 = .ok (.bipush 6, 2) := by decide +kernel
theorem dX0_tie_21 : decode cX0_tie 21 = .ok (.if_icmp .lt 13, 3) := by decide +kernel
theorem dX0_tie_24 : decode cX0_tie 24 = .ok (.new 54, 3) := by decide +kernel
theorem dX0_tie_27 : decode cX0_tie 27 = .ok (.dup, 1) := by decide +kernel
theorem dX0_tie_28 : decode cX0_tie 28 = .ok (.ldc 76, 2) := by decide +kernel
theorem dX0_tie_30 : decode cX0_tie 30 = .ok (.invokespecial 58, 3) := by decide +kernel
theorem dX0_tie_33 : decode cX0_tie 33 = .ok (.athrow, 1) := by decide +kernel
theorem dX0_tie_34 : decode cX0_tie 34 = .ok (.aload_n 0, 1) := by decide +kernel
theorem dX0_tie_35 : decode cX0_tie 35 = .ok (.getfield 32, 3) := by decide +kernel
theorem dX0_tie_38 : decode cX0_tie 38 = .ok (.istore_n 3, 1) := by decide +kernel
theorem dX0_tie_39 : decode cX0_tie 39 = .ok (.aload_n 0, 1) := by decide +kernel
theorem dX0_tie_40 : decode cX0_tie 40 = .ok (.iload_n 3, 1) := by decide +kernel
theorem dX0_tie_41 : decode cX0_tie 41 = .ok (.iconst 1, 1) := by decide +kernel
theorem dX0_tie_42 : decode cX0_tie 42 = .ok (.iadd, 1) := by decide +kernel
theorem dX0_tie_43 : decode cX0_tie 43 = .ok (.putfield 32, 3) := by decide +kernel
theorem dX0_tie_46 : decode cX0_tie 46 = .ok (.aload_n 0, 1) := by decide +kernel
theorem dX0_tie_47 : decode cX0_tie 47 = .ok (.getfield 29, 3) := by decide +kernel
theorem dX0_tie_50 : decode cX0_tie 50 = .ok (.iload_n 3, 1) := by decide +kernel
theorem dX0_tie_51 : decode cX0_tie 51 = .ok (.iconst 0, 1) := by decide +kernel
theorem dX0_tie_52 : decode cX0_tie 52 = .ok (.iastore, 1) := by decide +kernel
theorem dX0_tie_53 : decode cX0_tie 53 = .ok (.aload_n 0, 1) := by decide +kernel
theorem dX0_tie_54 : decode cX0_tie 54 = .ok (.iload_n 3, 1) := by decide +kernel
theorem dX0_tie_55 : decode cX0_tie 55 = .ok (.iload_n 1, 1) := by decide +kernel
theorem dX0_tie_56 : decode cX0_tie 56 = .ok (.iload_n 2, 1) := by decide +kernel
theorem dX0_tie_57 : decode cX0_tie 57 = .ok (.invokevirtual 78, 3) := by decide +kernel
theorem dX0_tie_60 : decode cX0_tie 60 = .ok (.iload_n 3, 1) := by decide +kernel
theorem dX0_tie_61 : decode cX0_tie 61 = .ok (.ireturn, 1) := by decide +kernel
theorem dX0_join_0 : decode cX0_join 0 = .ok (.aload_n 0, 1) := by decide +kernel
theorem dX0_join_1 : decode cX0_join 1 = .ok (.iload_n 1, 1) := by decide +kernel
theorem dX0_join_2 : decode cX0_join 2 = .ok (.invokevirtual 82, 3) := by decide +kernel
theorem dX0_join_5 : decode cX0_join 5 = .ok (.aload_n 0, 1) := by decide +kernel
theorem dX0_join_6 : decode cX0_join 6 = .ok (.iload_n 2, 1) := by decide +kernel
theorem dX0_join_7 : decode cX0_join 7 = .ok (.invokevirtual 59, 3) := by decide +kernel
theorem dX0_join_10 : decode cX0_join 10 = .ok (.aload_n 0, 1) := by decide +kernel
theorem dX0_join_11 : decode cX0_join 11 = .ok (.iload_n 2, 1) := by decide +kernel
theorem dX0_join_12 : decode cX0_join 12 = .ok (.iconst 0, 1) := by decide +kernel
theorem dX0_join_13 : decode cX0_join 13 = .ok (.invokevirtual 69, 3) := by decide +kernel
theorem dX0_join_16 : decode cX0_join 16 = .ok (.iload_n 3, 1) := by decide +kernel
theorem dX0_join_17 : decode cX0_join 17 = .ok (.invokestatic 73, 3) := by decide +kernel
theorem dX0_join_20 : decode cX0_join 20 = .ok (.aload_n 0, 1) := by decide +kernel
theorem dX0_join_21 : decode cX0_join 21 = .ok (.iload_n 1, 1) := by decide +kernel
theorem dX0_join_22 : decode cX0_join 22 = .ok (.invokevirtual 85, 3) := by decide +kernel
theorem dX0_join_25 : decode cX0_join 25 = .ok (.aload_n 0, 1) := by decide +kernel
theorem dX0_join_26 : decode cX0_join 26 = .ok (.getfield 29, 3) := by decide +kernel
theorem dX0_join_29 : decode cX0_join 29 = .ok (.iload_n 1, 1) := by decide +kernel
theorem dX0_join_30 : decode cX0_join 30 = .ok (.iaload, 1) := by decide +kernel
theorem dX0_join_31 : decode cX0_join 31 = .ok (.iconst 5, 1) := by decide +kernel
theorem dX0_join_32 : decode cX0_join 32 = .ok (.if_icmp .lt 13, 3) := by decide +kernel
theorem dX0_join_35 : decode cX0_join 35 = .ok (.new 54, 3) := by decide +kernel
theorem dX0_join_38 : decode cX0_join 38 = .ok (.dup, 1) := by decide +kernel
theorem dX0_join_39 : decode cX0_join 39 = .ok (.ldc 88, 2) := by decide +kernel
theorem dX0_join_41 : decode cX0_join 41 = .ok (.invokespecial 58, 3) := by decide +kernel
theorem dX0_join_44 : decode cX0_join 44 = .ok (.athrow, 1) := by decide +kernel
theorem dX0_join_45 : decode cX0_join 45 = .ok (.aload_n 0, 1) := by decide +kernel
theorem dX0_join_46 : decode cX0_join 46 = .ok (.iload_n 1, 1) := by decide +kernel
theorem dX0_join_47 : decode cX0_join 47 = .ok (.iload_n 2, 1) := by decide +kernel
theorem dX0_join_48 : decode cX0_join 48 = .ok (.iload_n 3, 1) := by decide +kernel
theorem dX0_join_49 : decode cX0_join 49 = .ok (.invokevirtual 78, 3) := by decide +kernel
theorem dX0_join_52 : decode cX0_join 52 = .ok (.aload_n 0, 1) := by decide +kernel
theorem dX0_join_53 : decode cX0_join 53 = .ok (.getfield 29, 3) := by decide +kernel
theorem dX0_join_56 : decode cX0_join 56 = .ok (.iload_n 1, 1) := by decide +kernel
theorem dX0_join_57 : decode cX0_join 57 = .ok (.iaload, 1) := by decide +kernel
theorem dX0_join_58 : decode cX0_join 58 = .ok (.ireturn, 1) := by decide +kernel
theorem dX0_retie_0 : decode cX0_retie 0 = .ok (.aload_n 0, 1) := by decide +kernel
theorem dX0_retie_1 : decode cX0_retie 1 = .ok (.iload_n 1, 1) := by decide +kernel
theorem dX0_retie_2 : decode cX0_retie 2 = .ok (.iload_n 2, 1) := by decide +kernel
theorem dX0_retie_3 : decode cX0_retie 3 = .ok (.invokevirtual 90, 3) := by decide +kernel
theorem dX0_retie_6 : decode cX0_retie 6 = .ok (.aload_n 0, 1) := by decide +kernel
theorem dX0_retie_7 : decode cX0_retie 7 = .ok (.iload_n 3, 1) := by decide +kernel
theorem dX0_retie_8 : decode cX0_retie 8 = .ok (.invokevirtual 59, 3) := by decide +kernel
theorem dX0_retie_11 : decode cX0_retie 11 = .ok (.aload_n 0, 1) := by decide +kernel
theorem dX0_retie_12 : decode cX0_retie 12 = .ok (.iload_n 3, 1) := by decide +kernel
theorem dX0_retie_13 : decode cX0_retie 13 = .ok (.iload_n 2, 1) := by decide +kernel
theorem dX0_retie_14 : decode cX0_retie 14 = .ok (.invokestatic 93, 3) := by decide +kernel
theorem dX0_retie_17 : decode cX0_retie 17 = .ok (.invokevirtual 69, 3) := by decide +kernel
theorem dX0_retie_20 : decode cX0_retie 20 = .ok (.iload_n 1, 1) := by decide +kernel
theorem dX0_retie_21 : decode cX0_retie 21 = .ok (.iload_n 2, 1) := by decide +kernel
theorem dX0_retie_22 : decode cX0_retie 22 = .ok (.invokestatic 97, 3) := by decide +kernel
theorem dX0_retie_25 : decode cX0_retie 25 = .ok (.istore 4, 2) := by decide +kernel
theorem dX0_retie_27 : decode cX0_retie 27 = .ok (.aload_n 0, 1) := by decide +kernel
theorem dX0_retie_28 : decode cX0_retie 28 = .ok (.getfield 35, 3) := by decide +kernel
theorem dX0_retie_31 : decode cX0_retie 31 = .ok (.iload 4, 2) := by decide +kernel
theorem dX0_retie_33 : decode cX0_retie 33 = .ok (.iaload, 1) := by decide +kernel
theorem dX0_retie_34 : decode cX0_retie 34 = .ok (.istore 5, 2) := by decide +kernel
theorem dX0_retie_36 : decode cX0_retie 36 = .ok (.aload_n 0, 1) := by decide +kernel
theorem dX0_retie_37 : decode cX0_retie 37 = .ok (.getfield 35, 3) := by decide +kernel
theorem dX0_retie_40 : decode cX0_retie 40 = .ok (.iload 4, 2) := by decide +kernel
theorem dX0_retie_42 : decode cX0_retie 42 = .ok (.iload_n 3, 1) := by decide +kernel
theorem dX0_retie_43 : decode cX0_retie 43 = .ok (.iastore, 1) := by decide +kernel
theorem dX0_retie_44 : decode cX0_retie 44 = .ok (.iload 5, 2) := by decide +kernel
theorem dX0_retie_46 : decode cX0_retie 46 = .ok (.ireturn, 1) := by decide +kernel
theorem dX0_pull_0 : decode cX0_pull 0 = .ok (.aload_n 0, 1) := by decide +kernel
theorem dX0_pull_1 : decode cX0_pull 1 = .ok (.iload_n 1, 1) := by decide +kernel
theorem dX0_pull_2 : decode cX0_pull 2 = .ok (.invokevirtual 82, 3) := by decide +kernel
theorem dX0_pull_5 : decode cX0_pull 5 = .ok (.iload_n 2, 1) := by decide +kernel
theorem dX0_pull_6 : decode cX0_pull 6 = .ok (.invokestatic 62, 3) := by decide +kernel
theorem dX0_pull_9 : decode cX0_pull 9 = .ok (.aload_n 0, 1) := by decide +kernel
theorem dX0_pull_10 : decode cX0_pull 10 = .ok (.iload_n 1, 1) := by decide +kernel
theorem dX0_pull_11 : decode cX0_pull 11 = .ok (.invokevirtual 85, 3) := by decide +kernel
theorem dX0_pull_14 : decode cX0_pull 14 = .ok (.aload_n 0, 1) := by decide +kernel
theorem dX0_pull_15 : decode cX0_pull 15 = .ok (.iload_n 1, 1) := by decide +kernel
theorem dX0_pull_16 : decode cX0_pull 16 = .ok (.iload_n 2, 1) := by decide +kernel
theorem dX0_pull_17 : decode cX0_pull 17 = .ok (.invokevirtual 101, 3) := by decide +kernel
theorem dX0_pull_20 : decode cX0_pull 20 = .ok (.istore_n 3, 1) := by decide +kernel
theorem dX0_pull_21 : decode cX0_pull 21 = .ok (.iload_n 3, 1) := by decide +kernel
theorem dX0_pull_22 : decode cX0_pull 22 = .ok (.iconst (-1), 1) := by decide +kernel
theorem dX0_pull_23 : decode cX0_pull 23 = .ok (.if_icmp .eq 10, 3) := by decide +kernel
theorem dX0_pull_26 : decode cX0_pull 26 = .ok (.aload_n 0, 1) := by decide +kernel
theorem dX0_pull_27 : decode cX0_pull 27 = .ok (.getfield 29, 3) := by decide +kernel
theorem dX0_pull_30 : decode cX0_pull 30 = .ok (.iload_n 1, 1) := by decide +kernel
theorem dX0_pull_31 : decode cX0_pull 31 = .ok (.iload_n 3, 1) := by decide +kernel
theorem dX0_pull_32 : decode cX0_pull 32 = .ok (.iastore, 1) := by decide +kernel
theorem dX0_pull_33 : decode cX0_pull 33 = .ok (.iconst 0, 1) := by decide +kernel
theorem dX0_pull_34 : decode cX0_pull 34 = .ok (.istore 4, 2) := by decide +kernel
theorem dX0_pull_36 : decode cX0_pull 36 = .ok (.iload 4, 2) := by decide +kernel
theorem dX0_pull_38 : decode cX0_pull 38 = .ok (.aload_n 0, 1) := by decide +kernel
theorem dX0_pull_39 : decode cX0_pull 39 = .ok (.getfield 29, 3) := by decide +kernel
theorem dX0_pull_42 : decode cX0_pull 42 = .ok (.iload_n 1, 1) := by decide +kernel
theorem dX0_pull_43 : decode cX0_pull 43 = .ok (.iaload, 1) := by decide +kernel
theorem dX0_pull_44 : decode cX0_pull 44 = .ok (.if_icmp .ge 36, 3) := by decide +kernel
theorem dX0_pull_47 : decode cX0_pull 47 = .ok (.iload_n 1, 1) := by decide +kernel
theorem dX0_pull_48 : decode cX0_pull 48 = .ok (.iload 4, 2) := by decide +kernel
theorem dX0_pull_50 : decode cX0_pull 50 = .ok (.invokestatic 97, 3) := by decide +kernel
theorem dX0_pull_53 : decode cX0_pull 53 = .ok (.istore 5, 2) := by decide +kernel
theorem dX0_pull_55 : decode cX0_pull 55 = .ok (.aload_n 0, 1) := by decide +kernel
theorem dX0_pull_56 : decode cX0_pull 56 = .ok (.getfield 35, 3) := by decide +kernel
theorem dX0_pull_59 : decode cX0_pull 59 = .ok (.iload 5, 2) := by decide +kernel
theorem dX0_pull_61 : decode cX0_pull 61 = .ok (.aload_n 0, 1) := by decide +kernel
theorem dX0_pull_62 : decode cX0_pull 62 = .ok (.aload_n 0, 1) := by decide +kernel
theorem dX0_pull_63 : decode cX0_pull 63 = .ok (.getfield 35, 3) := by decide +kernel
theorem dX0_pull_66 : decode cX0_pull 66 = .ok (.iload 5, 2) := by decide +kernel
theorem dX0_pull_68 : decode cX0_pull 68 = .ok (.iaload, 1) := by decide +kernel
theorem dX0_pull_69 : decode cX0_pull 69 = .ok (.iload_n 2, 1) := by decide +kernel
theorem dX0_pull_70 : decode cX0_pull 70 = .ok (.invokevirtual 104, 3) := by decide +kernel
theorem dX0_pull_73 : decode cX0_pull 73 = .ok (.iastore, 1) := by decide +kernel
theorem dX0_pull_74 : decode cX0_pull 74 = .ok (.iinc 4 1, 3) := by decide +kernel
theorem dX0_pull_77 : decode cX0_pull 77 = .ok (.goto (-41), 3) := by decide +kernel
theorem dX0_pull_80 : decode cX0_pull 80 = .ok (.iload_n 3, 1) := by decide +kernel
theorem dX0_pull_81 : decode cX0_pull 81 = .ok (.ireturn, 1) := by decide +kernel
theorem dX0_knots_0 : decode cX0_knots 0 = .ok (.aload_n 0, 1) := by decide +kernel
theorem dX0_knots_1 : decode cX0_knots 1 = .ok (.getfield 25, 3) := by decide +kernel
theorem dX0_knots_4 : decode cX0_knots 4 = .ok (.ireturn, 1) := by decide +kernel
theorem dX0_knotsOf_0 : decode cX0_knotsOf 0 = .ok (.iload_n 1, 1) := by decide +kernel
theorem dX0_knotsOf_1 : decode cX0_knotsOf 1 = .ok (.invokestatic 41, 3) := by decide +kernel
theorem dX0_knotsOf_4 : decode cX0_knotsOf 4 = .ok (.aload_n 0, 1) := by decide +kernel
theorem dX0_knotsOf_5 : decode cX0_knotsOf 5 = .ok (.iload_n 1, 1) := by decide +kernel
theorem dX0_knotsOf_6 : decode cX0_knotsOf 6 = .ok (.invokevirtual 107, 3) := by decide +kernel
theorem dX0_knotsOf_9 : decode cX0_knotsOf 9 = .ok (.ireturn, 1) := by decide +kernel
theorem dX0_kindOf_0 : decode cX0_kindOf 0 = .ok (.aload_n 0, 1) := by decide +kernel
theorem dX0_kindOf_1 : decode cX0_kindOf 1 = .ok (.iload_n 1, 1) := by decide +kernel
theorem dX0_kindOf_2 : decode cX0_kindOf 2 = .ok (.invokevirtual 59, 3) := by decide +kernel
theorem dX0_kindOf_5 : decode cX0_kindOf 5 = .ok (.aload_n 0, 1) := by decide +kernel
theorem dX0_kindOf_6 : decode cX0_kindOf 6 = .ok (.getfield 9, 3) := by decide +kernel
theorem dX0_kindOf_9 : decode cX0_kindOf 9 = .ok (.iload_n 1, 1) := by decide +kernel
theorem dX0_kindOf_10 : decode cX0_kindOf 10 = .ok (.iaload, 1) := by decide +kernel
theorem dX0_kindOf_11 : decode cX0_kindOf 11 = .ok (.ireturn, 1) := by decide +kernel
theorem dX0_efficiencyOf_0 : decode cX0_efficiencyOf 0 = .ok (.aload_n 0, 1) := by decide +kernel
theorem dX0_efficiencyOf_1 : decode cX0_efficiencyOf 1 = .ok (.iload_n 1, 1) := by decide +kernel
theorem dX0_efficiencyOf_2 : decode cX0_efficiencyOf 2 = .ok (.invokevirtual 59, 3) := by decide +kernel
theorem dX0_efficiencyOf_5 : decode cX0_efficiencyOf 5 = .ok (.aload_n 0, 1) := by decide +kernel
theorem dX0_efficiencyOf_6 : decode cX0_efficiencyOf 6 = .ok (.getfield 13, 3) := by decide +kernel
theorem dX0_efficiencyOf_9 : decode cX0_efficiencyOf 9 = .ok (.iload_n 1, 1) := by decide +kernel
theorem dX0_efficiencyOf_10 : decode cX0_efficiencyOf 10 = .ok (.iaload, 1) := by decide +kernel
theorem dX0_efficiencyOf_11 : decode cX0_efficiencyOf 11 = .ok (.ireturn, 1) := by decide +kernel
theorem dX0_crossingsOf_0 : decode cX0_crossingsOf 0 = .ok (.aload_n 0, 1) := by decide +kernel
theorem dX0_crossingsOf_1 : decode cX0_crossingsOf 1 = .ok (.iload_n 1, 1) := by decide +kernel
theorem dX0_crossingsOf_2 : decode cX0_crossingsOf 2 = .ok (.invokevirtual 59, 3) := by decide +kernel
theorem dX0_crossingsOf_5 : decode cX0_crossingsOf 5 = .ok (.aload_n 0, 1) := by decide +kernel
theorem dX0_crossingsOf_6 : decode cX0_crossingsOf 6 = .ok (.getfield 16, 3) := by decide +kernel
theorem dX0_crossingsOf_9 : decode cX0_crossingsOf 9 = .ok (.iload_n 1, 1) := by decide +kernel
theorem dX0_crossingsOf_10 : decode cX0_crossingsOf 10 = .ok (.iaload, 1) := by decide +kernel
theorem dX0_crossingsOf_11 : decode cX0_crossingsOf 11 = .ok (.ireturn, 1) := by decide +kernel
theorem dX0_spillsAt_0 : decode cX0_spillsAt 0 = .ok (.aload_n 0, 1) := by decide +kernel
theorem dX0_spillsAt_1 : decode cX0_spillsAt 1 = .ok (.iload_n 1, 1) := by decide +kernel
theorem dX0_spillsAt_2 : decode cX0_spillsAt 2 = .ok (.invokevirtual 59, 3) := by decide +kernel
theorem dX0_spillsAt_5 : decode cX0_spillsAt 5 = .ok (.aload_n 0, 1) := by decide +kernel
theorem dX0_spillsAt_6 : decode cX0_spillsAt 6 = .ok (.getfield 19, 3) := by decide +kernel
theorem dX0_spillsAt_9 : decode cX0_spillsAt 9 = .ok (.iload_n 1, 1) := by decide +kernel
theorem dX0_spillsAt_10 : decode cX0_spillsAt 10 = .ok (.iaload, 1) := by decide +kernel
theorem dX0_spillsAt_11 : decode cX0_spillsAt 11 = .ok (.ireturn, 1) := by decide +kernel
theorem dX0_spillsInto_0 : decode cX0_spillsInto 0 = .ok (.aload_n 0, 1) := by decide +kernel
theorem dX0_spillsInto_1 : decode cX0_spillsInto 1 = .ok (.iload_n 1, 1) := by decide +kernel
theorem dX0_spillsInto_2 : decode cX0_spillsInto 2 = .ok (.invokevirtual 59, 3) := by decide +kernel
theorem dX0_spillsInto_5 : decode cX0_spillsInto 5 = .ok (.aload_n 0, 1) := by decide +kernel
theorem dX0_spillsInto_6 : decode cX0_spillsInto 6 = .ok (.getfield 22, 3) := by decide +kernel
theorem dX0_spillsInto_9 : decode cX0_spillsInto 9 = .ok (.iload_n 1, 1) := by decide +kernel
theorem dX0_spillsInto_10 : decode cX0_spillsInto 10 = .ok (.iaload, 1) := by decide +kernel
theorem dX0_spillsInto_11 : decode cX0_spillsInto 11 = .ok (.ireturn, 1) := by decide +kernel
theorem dX0_rankOf_0 : decode cX0_rankOf 0 = .ok (.aload_n 0, 1) := by decide +kernel
theorem dX0_rankOf_1 : decode cX0_rankOf 1 = .ok (.iload_n 1, 1) := by decide +kernel
theorem dX0_rankOf_2 : decode cX0_rankOf 2 = .ok (.invokevirtual 59, 3) := by decide +kernel
theorem dX0_rankOf_5 : decode cX0_rankOf 5 = .ok (.aload_n 0, 1) := by decide +kernel
theorem dX0_rankOf_6 : decode cX0_rankOf 6 = .ok (.iload_n 1, 1) := by decide +kernel
theorem dX0_rankOf_7 : decode cX0_rankOf 7 = .ok (.invokevirtual 110, 3) := by decide +kernel
theorem dX0_rankOf_10 : decode cX0_rankOf 10 = .ok (.ireturn, 1) := by decide +kernel
theorem dX0_knotAt_0 : decode cX0_knotAt 0 = .ok (.iload_n 1, 1) := by decide +kernel
theorem dX0_knotAt_1 : decode cX0_knotAt 1 = .ok (.invokestatic 41, 3) := by decide +kernel
theorem dX0_knotAt_4 : decode cX0_knotAt 4 = .ok (.aload_n 0, 1) := by decide +kernel
theorem dX0_knotAt_5 : decode cX0_knotAt 5 = .ok (.iload_n 1, 1) := by decide +kernel
theorem dX0_knotAt_6 : decode cX0_knotAt 6 = .ok (.iload_n 2, 1) := by decide +kernel
theorem dX0_knotAt_7 : decode cX0_knotAt 7 = .ok (.invokevirtual 113, 3) := by decide +kernel
theorem dX0_knotAt_10 : decode cX0_knotAt 10 = .ok (.istore_n 3, 1) := by decide +kernel
theorem dX0_knotAt_11 : decode cX0_knotAt 11 = .ok (.iload_n 3, 1) := by decide +kernel
theorem dX0_knotAt_12 : decode cX0_knotAt 12 = .ok (.iconst (-1), 1) := by decide +kernel
theorem dX0_knotAt_13 : decode cX0_knotAt 13 = .ok (.if_icmp .ne 13, 3) := by decide +kernel
theorem dX0_knotAt_16 : decode cX0_knotAt 16 = .ok (.new 116, 3) := by decide +kernel
theorem dX0_knotAt_19 : decode cX0_knotAt 19 = .ok (.dup, 1) := by decide +kernel
theorem dX0_knotAt_20 : decode cX0_knotAt 20 = .ok (.ldc 118, 2) := by decide +kernel
theorem dX0_knotAt_22 : decode cX0_knotAt 22 = .ok (.invokespecial 120, 3) := by decide +kernel
theorem dX0_knotAt_25 : decode cX0_knotAt 25 = .ok (.athrow, 1) := by decide +kernel
theorem dX0_knotAt_26 : decode cX0_knotAt 26 = .ok (.iload_n 3, 1) := by decide +kernel
theorem dX0_knotAt_27 : decode cX0_knotAt 27 = .ok (.ireturn, 1) := by decide +kernel
theorem dX0_formOf_0 : decode cX0_formOf 0 = .ok (.aload_n 0, 1) := by decide +kernel
theorem dX0_formOf_1 : decode cX0_formOf 1 = .ok (.iload_n 1, 1) := by decide +kernel
theorem dX0_formOf_2 : decode cX0_formOf 2 = .ok (.invokevirtual 59, 3) := by decide +kernel
theorem dX0_formOf_5 : decode cX0_formOf 5 = .ok (.iload_n 2, 1) := by decide +kernel
theorem dX0_formOf_6 : decode cX0_formOf 6 = .ok (.invokestatic 62, 3) := by decide +kernel
theorem dX0_formOf_9 : decode cX0_formOf 9 = .ok (.aload_n 0, 1) := by decide +kernel
theorem dX0_formOf_10 : decode cX0_formOf 10 = .ok (.iload_n 1, 1) := by decide +kernel
theorem dX0_formOf_11 : decode cX0_formOf 11 = .ok (.iload_n 2, 1) := by decide +kernel
theorem dX0_formOf_12 : decode cX0_formOf 12 = .ok (.invokevirtual 104, 3) := by decide +kernel
theorem dX0_formOf_15 : decode cX0_formOf 15 = .ok (.ireturn, 1) := by decide +kernel
theorem dX0_spills_0 : decode cX0_spills 0 = .ok (.aload_n 0, 1) := by decide +kernel
theorem dX0_spills_1 : decode cX0_spills 1 = .ok (.iload_n 1, 1) := by decide +kernel
theorem dX0_spills_2 : decode cX0_spills 2 = .ok (.invokevirtual 59, 3) := by decide +kernel
theorem dX0_spills_5 : decode cX0_spills 5 = .ok (.iload_n 2, 1) := by decide +kernel
theorem dX0_spills_6 : decode cX0_spills 6 = .ok (.invokestatic 62, 3) := by decide +kernel
theorem dX0_spills_9 : decode cX0_spills 9 = .ok (.iload_n 1, 1) := by decide +kernel
theorem dX0_spills_10 : decode cX0_spills 10 = .ok (.istore_n 3, 1) := by decide +kernel
theorem dX0_spills_11 : decode cX0_spills 11 = .ok (.iconst 0, 1) := by decide +kernel
theorem dX0_spills_12 : decode cX0_spills 12 = .ok (.istore 4, 2) := by decide +kernel
theorem dX0_spills_14 : decode cX0_spills 14 = .ok (.iload 4, 2) := by decide +kernel
theorem dX0_spills_16 : decode cX0_spills 16 = .ok (.bipush 16, 2) := by decide +kernel
theorem dX0_spills_18 : decode cX0_spills 18 = .ok (.if_icmp .ge 25, 3) := by decide +kernel
theorem dX0_spills_21 : decode cX0_spills 21 = .ok (.aload_n 0, 1) := by decide +kernel
theorem dX0_spills_22 : decode cX0_spills 22 = .ok (.iload_n 3, 1) := by decide +kernel
theorem dX0_spills_23 : decode cX0_spills 23 = .ok (.iload_n 2, 1) := by decide +kernel
theorem dX0_spills_24 : decode cX0_spills 24 = .ok (.invokevirtual 121, 3) := by decide +kernel
theorem dX0_spills_27 : decode cX0_spills 27 = .ok (.ifCond .eq 16, 3) := by decide +kernel
theorem dX0_spills_30 : decode cX0_spills 30 = .ok (.aload_n 0, 1) := by decide +kernel
theorem dX0_spills_31 : decode cX0_spills 31 = .ok (.getfield 22, 3) := by decide +kernel
theorem dX0_spills_34 : decode cX0_spills 34 = .ok (.iload_n 3, 1) := by decide +kernel
theorem dX0_spills_35 : decode cX0_spills 35 = .ok (.iaload, 1) := by decide +kernel
theorem dX0_spills_36 : decode cX0_spills 36 = .ok (.istore_n 3, 1) := by decide +kernel
theorem dX0_spills_37 : decode cX0_spills 37 = .ok (.iinc 4 1, 3) := by decide +kernel
theorem dX0_spills_40 : decode cX0_spills 40 = .ok (.goto (-26), 3) := by decide +kernel
theorem dX0_spills_43 : decode cX0_spills 43 = .ok (.iload 4, 2) := by decide +kernel
theorem dX0_spills_45 : decode cX0_spills 45 = .ok (.ireturn, 1) := by decide +kernel
theorem dX0_fallsApartAt_0 : decode cX0_fallsApartAt 0 = .ok (.aload_n 0, 1) := by decide +kernel
theorem dX0_fallsApartAt_1 : decode cX0_fallsApartAt 1 = .ok (.iload_n 1, 1) := by decide +kernel
theorem dX0_fallsApartAt_2 : decode cX0_fallsApartAt 2 = .ok (.invokevirtual 59, 3) := by decide +kernel
theorem dX0_fallsApartAt_5 : decode cX0_fallsApartAt 5 = .ok (.iload_n 1, 1) := by decide +kernel
theorem dX0_fallsApartAt_6 : decode cX0_fallsApartAt 6 = .ok (.istore_n 2, 1) := by decide +kernel
theorem dX0_fallsApartAt_7 : decode cX0_fallsApartAt 7 = .ok (.iconst 0, 1) := by decide +kernel
theorem dX0_fallsApartAt_8 : decode cX0_fallsApartAt 8 = .ok (.istore_n 3, 1) := by decide +kernel
theorem dX0_fallsApartAt_9 : decode cX0_fallsApartAt 9 = .ok (.iconst 0, 1) := by decide +kernel
theorem dX0_fallsApartAt_10 : decode cX0_fallsApartAt 10 = .ok (.istore 4, 2) := by decide +kernel
theorem dX0_fallsApartAt_12 : decode cX0_fallsApartAt 12 = .ok (.iload 4, 2) := by decide +kernel
theorem dX0_fallsApartAt_14 : decode cX0_fallsApartAt 14 = .ok (.bipush 16, 2) := by decide +kernel
theorem dX0_fallsApartAt_16 : decode cX0_fallsApartAt 16 = .ok (.if_icmp .ge 46, 3) := by decide +kernel
theorem dX0_fallsApartAt_19 : decode cX0_fallsApartAt 19 = .ok (.aload_n 0, 1) := by decide +kernel
theorem dX0_fallsApartAt_20 : decode cX0_fallsApartAt 20 = .ok (.iload_n 2, 1) := by decide +kernel
theorem dX0_fallsApartAt_21 : decode cX0_fallsApartAt 21 = .ok (.invokevirtual 125, 3) := by decide +kernel
theorem dX0_fallsApartAt_24 : decode cX0_fallsApartAt 24 = .ok (.ifCond .eq 38, 3) := by decide +kernel
theorem dX0_fallsApartAt_27 : decode cX0_fallsApartAt 27 = .ok (.aload_n 0, 1) := by decide +kernel
theorem dX0_fallsApartAt_28 : decode cX0_fallsApartAt 28 = .ok (.getfield 19, 3) := by decide +kernel
theorem dX0_fallsApartAt_31 : decode cX0_fallsApartAt 31 = .ok (.iload_n 2, 1) := by decide +kernel
theorem dX0_fallsApartAt_32 : decode cX0_fallsApartAt 32 = .ok (.iaload, 1) := by decide +kernel
theorem dX0_fallsApartAt_33 : decode cX0_fallsApartAt 33 = .ok (.ifCond .ne 5, 3) := by decide +kernel
theorem dX0_fallsApartAt_36 : decode cX0_fallsApartAt 36 = .ok (.iconst 0, 1) := by decide +kernel
theorem dX0_fallsApartAt_37 : decode cX0_fallsApartAt 37 = .ok (.ireturn, 1) := by decide +kernel
theorem dX0_fallsApartAt_38 : decode cX0_fallsApartAt 38 = .ok (.iload_n 3, 1) := by decide +kernel
theorem dX0_fallsApartAt_39 : decode cX0_fallsApartAt 39 = .ok (.aload_n 0, 1) := by decide +kernel
theorem dX0_fallsApartAt_40 : decode cX0_fallsApartAt 40 = .ok (.getfield 19, 3) := by decide +kernel
theorem dX0_fallsApartAt_43 : decode cX0_fallsApartAt 43 = .ok (.iload_n 2, 1) := by decide +kernel
theorem dX0_fallsApartAt_44 : decode cX0_fallsApartAt 44 = .ok (.iaload, 1) := by decide +kernel
theorem dX0_fallsApartAt_45 : decode cX0_fallsApartAt 45 = .ok (.invokestatic 129, 3) := by decide +kernel
theorem dX0_fallsApartAt_48 : decode cX0_fallsApartAt 48 = .ok (.istore_n 3, 1) := by decide +kernel
theorem dX0_fallsApartAt_49 : decode cX0_fallsApartAt 49 = .ok (.aload_n 0, 1) := by decide +kernel
theorem dX0_fallsApartAt_50 : decode cX0_fallsApartAt 50 = .ok (.getfield 22, 3) := by decide +kernel
theorem dX0_fallsApartAt_53 : decode cX0_fallsApartAt 53 = .ok (.iload_n 2, 1) := by decide +kernel
theorem dX0_fallsApartAt_54 : decode cX0_fallsApartAt 54 = .ok (.iaload, 1) := by decide +kernel
theorem dX0_fallsApartAt_55 : decode cX0_fallsApartAt 55 = .ok (.istore_n 2, 1) := by decide +kernel
theorem dX0_fallsApartAt_56 : decode cX0_fallsApartAt 56 = .ok (.iinc 4 1, 3) := by decide +kernel
theorem dX0_fallsApartAt_59 : decode cX0_fallsApartAt 59 = .ok (.goto (-47), 3) := by decide +kernel
theorem dX0_fallsApartAt_62 : decode cX0_fallsApartAt 62 = .ok (.iload_n 3, 1) := by decide +kernel
theorem dX0_fallsApartAt_63 : decode cX0_fallsApartAt 63 = .ok (.ireturn, 1) := by decide +kernel
theorem dX0_lines_0 : decode cX0_lines 0 = .ok (.aload_n 0, 1) := by decide +kernel
theorem dX0_lines_1 : decode cX0_lines 1 = .ok (.getfield 32, 3) := by decide +kernel
theorem dX0_lines_4 : decode cX0_lines 4 = .ok (.ireturn, 1) := by decide +kernel
theorem dX0_ropesOf_0 : decode cX0_ropesOf 0 = .ok (.aload_n 0, 1) := by decide +kernel
theorem dX0_ropesOf_1 : decode cX0_ropesOf 1 = .ok (.iload_n 1, 1) := by decide +kernel
theorem dX0_ropesOf_2 : decode cX0_ropesOf 2 = .ok (.invokevirtual 82, 3) := by decide +kernel
theorem dX0_ropesOf_5 : decode cX0_ropesOf 5 = .ok (.aload_n 0, 1) := by decide +kernel
theorem dX0_ropesOf_6 : decode cX0_ropesOf 6 = .ok (.getfield 29, 3) := by decide +kernel
theorem dX0_ropesOf_9 : decode cX0_ropesOf 9 = .ok (.iload_n 1, 1) := by decide +kernel
theorem dX0_ropesOf_10 : decode cX0_ropesOf 10 = .ok (.iaload, 1) := by decide +kernel
theorem dX0_ropesOf_11 : decode cX0_ropesOf 11 = .ok (.ireturn, 1) := by decide +kernel
theorem dX0_knotOf_0 : decode cX0_knotOf 0 = .ok (.aload_n 0, 1) := by decide +kernel
theorem dX0_knotOf_1 : decode cX0_knotOf 1 = .ok (.iload_n 1, 1) := by decide +kernel
theorem dX0_knotOf_2 : decode cX0_knotOf 2 = .ok (.iload_n 2, 1) := by decide +kernel
theorem dX0_knotOf_3 : decode cX0_knotOf 3 = .ok (.invokevirtual 90, 3) := by decide +kernel
theorem dX0_knotOf_6 : decode cX0_knotOf 6 = .ok (.aload_n 0, 1) := by decide +kernel
theorem dX0_knotOf_7 : decode cX0_knotOf 7 = .ok (.getfield 35, 3) := by decide +kernel
theorem dX0_knotOf_10 : decode cX0_knotOf 10 = .ok (.iload_n 1, 1) := by decide +kernel
theorem dX0_knotOf_11 : decode cX0_knotOf 11 = .ok (.iload_n 2, 1) := by decide +kernel
theorem dX0_knotOf_12 : decode cX0_knotOf 12 = .ok (.invokestatic 97, 3) := by decide +kernel
theorem dX0_knotOf_15 : decode cX0_knotOf 15 = .ok (.iaload, 1) := by decide +kernel
theorem dX0_knotOf_16 : decode cX0_knotOf 16 = .ok (.ireturn, 1) := by decide +kernel
theorem dX0_strengthAt_0 : decode cX0_strengthAt 0 = .ok (.aload_n 0, 1) := by decide +kernel
theorem dX0_strengthAt_1 : decode cX0_strengthAt 1 = .ok (.iload_n 1, 1) := by decide +kernel
theorem dX0_strengthAt_2 : decode cX0_strengthAt 2 = .ok (.iload_n 2, 1) := by decide +kernel
theorem dX0_strengthAt_3 : decode cX0_strengthAt 3 = .ok (.invokevirtual 90, 3) := by decide +kernel
theorem dX0_strengthAt_6 : decode cX0_strengthAt 6 = .ok (.aload_n 0, 1) := by decide +kernel
theorem dX0_strengthAt_7 : decode cX0_strengthAt 7 = .ok (.iload_n 1, 1) := by decide +kernel
theorem dX0_strengthAt_8 : decode cX0_strengthAt 8 = .ok (.iload_n 2, 1) := by decide +kernel
theorem dX0_strengthAt_9 : decode cX0_strengthAt 9 = .ok (.invokevirtual 134, 3) := by decide +kernel
theorem dX0_strengthAt_12 : decode cX0_strengthAt 12 = .ok (.ireturn, 1) := by decide +kernel
theorem dX0_weakestPlace_0 : decode cX0_weakestPlace 0 = .ok (.aload_n 0, 1) := by decide +kernel
theorem dX0_weakestPlace_1 : decode cX0_weakestPlace 1 = .ok (.iload_n 1, 1) := by decide +kernel
theorem dX0_weakestPlace_2 : decode cX0_weakestPlace 2 = .ok (.invokevirtual 82, 3) := by decide +kernel
theorem dX0_weakestPlace_5 : decode cX0_weakestPlace 5 = .ok (.iconst (-1), 1) := by decide +kernel
theorem dX0_weakestPlace_6 : decode cX0_weakestPlace 6 = .ok (.istore_n 2, 1) := by decide +kernel
theorem dX0_weakestPlace_7 : decode cX0_weakestPlace 7 = .ok (.ldc 139, 2) := by decide +kernel
theorem dX0_weakestPlace_9 : decode cX0_weakestPlace 9 = .ok (.istore_n 3, 1) := by decide +kernel
theorem dX0_weakestPlace_10 : decode cX0_weakestPlace 10 = .ok (.iconst 0, 1) := by decide +kernel
theorem dX0_weakestPlace_11 : decode cX0_weakestPlace 11 = .ok (.istore 4, 2) := by decide +kernel
theorem dX0_weakestPlace_13 : decode cX0_weakestPlace 13 = .ok (.iload 4, 2) := by decide +kernel
theorem dX0_weakestPlace_15 : decode cX0_weakestPlace 15 = .ok (.aload_n 0, 1) := by decide +kernel
theorem dX0_weakestPlace_16 : decode cX0_weakestPlace 16 = .ok (.getfield 29, 3) := by decide +kernel
theorem dX0_weakestPlace_19 : decode cX0_weakestPlace 19 = .ok (.iload_n 1, 1) := by decide +kernel
theorem dX0_weakestPlace_20 : decode cX0_weakestPlace 20 = .ok (.iaload, 1) := by decide +kernel
theorem dX0_weakestPlace_21 : decode cX0_weakestPlace 21 = .ok (.if_icmp .ge 30, 3) := by decide +kernel
theorem dX0_weakestPlace_24 : decode cX0_weakestPlace 24 = .ok (.aload_n 0, 1) := by decide +kernel
theorem dX0_weakestPlace_25 : decode cX0_weakestPlace 25 = .ok (.iload_n 1, 1) := by decide +kernel
theorem dX0_weakestPlace_26 : decode cX0_weakestPlace 26 = .ok (.iload 4, 2) := by decide +kernel
theorem dX0_weakestPlace_28 : decode cX0_weakestPlace 28 = .ok (.invokevirtual 134, 3) := by decide +kernel
theorem dX0_weakestPlace_31 : decode cX0_weakestPlace 31 = .ok (.istore 5, 2) := by decide +kernel
theorem dX0_weakestPlace_33 : decode cX0_weakestPlace 33 = .ok (.iload 5, 2) := by decide +kernel
theorem dX0_weakestPlace_35 : decode cX0_weakestPlace 35 = .ok (.iload_n 3, 1) := by decide +kernel
theorem dX0_weakestPlace_36 : decode cX0_weakestPlace 36 = .ok (.if_icmp .ge 9, 3) := by decide +kernel
theorem dX0_weakestPlace_39 : decode cX0_weakestPlace 39 = .ok (.iload 4, 2) := by decide +kernel
theorem dX0_weakestPlace_41 : decode cX0_weakestPlace 41 = .ok (.istore_n 2, 1) := by decide +kernel
theorem dX0_weakestPlace_42 : decode cX0_weakestPlace 42 = .ok (.iload 5, 2) := by decide +kernel
theorem dX0_weakestPlace_44 : decode cX0_weakestPlace 44 = .ok (.istore_n 3, 1) := by decide +kernel
theorem dX0_weakestPlace_45 : decode cX0_weakestPlace 45 = .ok (.iinc 4 1, 3) := by decide +kernel
theorem dX0_weakestPlace_48 : decode cX0_weakestPlace 48 = .ok (.goto (-35), 3) := by decide +kernel
theorem dX0_weakestPlace_51 : decode cX0_weakestPlace 51 = .ok (.iload_n 2, 1) := by decide +kernel
theorem dX0_weakestPlace_52 : decode cX0_weakestPlace 52 = .ok (.ireturn, 1) := by decide +kernel
theorem dX0_holds_0 : decode cX0_holds 0 = .ok (.aload_n 0, 1) := by decide +kernel
theorem dX0_holds_1 : decode cX0_holds 1 = .ok (.iload_n 1, 1) := by decide +kernel
theorem dX0_holds_2 : decode cX0_holds 2 = .ok (.invokevirtual 82, 3) := by decide +kernel
theorem dX0_holds_5 : decode cX0_holds 5 = .ok (.iload_n 2, 1) := by decide +kernel
theorem dX0_holds_6 : decode cX0_holds 6 = .ok (.invokestatic 62, 3) := by decide +kernel
theorem dX0_holds_9 : decode cX0_holds 9 = .ok (.aload_n 0, 1) := by decide +kernel
theorem dX0_holds_10 : decode cX0_holds 10 = .ok (.iload_n 1, 1) := by decide +kernel
theorem dX0_holds_11 : decode cX0_holds 11 = .ok (.invokevirtual 140, 3) := by decide +kernel
theorem dX0_holds_14 : decode cX0_holds 14 = .ok (.ifCond .ne 17, 3) := by decide +kernel
theorem dX0_holds_17 : decode cX0_holds 17 = .ok (.aload_n 0, 1) := by decide +kernel
theorem dX0_holds_18 : decode cX0_holds 18 = .ok (.iload_n 1, 1) := by decide +kernel
theorem dX0_holds_19 : decode cX0_holds 19 = .ok (.iload_n 2, 1) := by decide +kernel
theorem dX0_holds_20 : decode cX0_holds 20 = .ok (.invokevirtual 101, 3) := by decide +kernel
theorem dX0_holds_23 : decode cX0_holds 23 = .ok (.iconst (-1), 1) := by decide +kernel
theorem dX0_holds_24 : decode cX0_holds 24 = .ok (.if_icmp .ne 7, 3) := by decide +kernel
theorem dX0_holds_27 : decode cX0_holds 27 = .ok (.iconst 1, 1) := by decide +kernel
theorem dX0_holds_28 : decode cX0_holds 28 = .ok (.goto 4, 3) := by decide +kernel
theorem dX0_holds_31 : decode cX0_holds 31 = .ok (.iconst 0, 1) := by decide +kernel
theorem dX0_holds_32 : decode cX0_holds 32 = .ok (.ireturn, 1) := by decide +kernel
theorem dX0_holdsUpTo_0 : decode cX0_holdsUpTo 0 = .ok (.aload_n 0, 1) := by decide +kernel
theorem dX0_holdsUpTo_1 : decode cX0_holdsUpTo 1 = .ok (.iload_n 1, 1) := by decide +kernel
theorem dX0_holdsUpTo_2 : decode cX0_holdsUpTo 2 = .ok (.invokevirtual 82, 3) := by decide +kernel
theorem dX0_holdsUpTo_5 : decode cX0_holdsUpTo 5 = .ok (.aload_n 0, 1) := by decide +kernel
theorem dX0_holdsUpTo_6 : decode cX0_holdsUpTo 6 = .ok (.iload_n 1, 1) := by decide +kernel
theorem dX0_holdsUpTo_7 : decode cX0_holdsUpTo 7 = .ok (.iconst (-1), 1) := by decide +kernel
theorem dX0_holdsUpTo_8 : decode cX0_holdsUpTo 8 = .ok (.iconst (-1), 1) := by decide +kernel
theorem dX0_holdsUpTo_9 : decode cX0_holdsUpTo 9 = .ok (.invokevirtual 143, 3) := by decide +kernel
theorem dX0_holdsUpTo_12 : decode cX0_holdsUpTo 12 = .ok (.ireturn, 1) := by decide +kernel
theorem dX0_wouldGiveWay_0 : decode cX0_wouldGiveWay 0 = .ok (.aload_n 0, 1) := by decide +kernel
theorem dX0_wouldGiveWay_1 : decode cX0_wouldGiveWay 1 = .ok (.iload_n 1, 1) := by decide +kernel
theorem dX0_wouldGiveWay_2 : decode cX0_wouldGiveWay 2 = .ok (.invokevirtual 82, 3) := by decide +kernel
theorem dX0_wouldGiveWay_5 : decode cX0_wouldGiveWay 5 = .ok (.iload_n 2, 1) := by decide +kernel
theorem dX0_wouldGiveWay_6 : decode cX0_wouldGiveWay 6 = .ok (.invokestatic 62, 3) := by decide +kernel
theorem dX0_wouldGiveWay_9 : decode cX0_wouldGiveWay 9 = .ok (.aload_n 0, 1) := by decide +kernel
theorem dX0_wouldGiveWay_10 : decode cX0_wouldGiveWay 10 = .ok (.iload_n 1, 1) := by decide +kernel
theorem dX0_wouldGiveWay_11 : decode cX0_wouldGiveWay 11 = .ok (.iload_n 2, 1) := by decide +kernel
theorem dX0_wouldGiveWay_12 : decode cX0_wouldGiveWay 12 = .ok (.invokevirtual 101, 3) := by decide +kernel
theorem dX0_wouldGiveWay_15 : decode cX0_wouldGiveWay 15 = .ok (.ireturn, 1) := by decide +kernel
theorem dX0_bestKnot_0 : decode cX0_bestKnot 0 = .ok (.aload_n 0, 1) := by decide +kernel
theorem dX0_bestKnot_1 : decode cX0_bestKnot 1 = .ok (.iload_n 1, 1) := by decide +kernel
theorem dX0_bestKnot_2 : decode cX0_bestKnot 2 = .ok (.iload_n 2, 1) := by decide +kernel
theorem dX0_bestKnot_3 : decode cX0_bestKnot 3 = .ok (.invokevirtual 90, 3) := by decide +kernel
theorem dX0_bestKnot_6 : decode cX0_bestKnot 6 = .ok (.iload_n 2, 1) := by decide +kernel
theorem dX0_bestKnot_7 : decode cX0_bestKnot 7 = .ok (.invokestatic 93, 3) := by decide +kernel
theorem dX0_bestKnot_10 : decode cX0_bestKnot 10 = .ok (.istore_n 3, 1) := by decide +kernel
theorem dX0_bestKnot_11 : decode cX0_bestKnot 11 = .ok (.aload_n 0, 1) := by decide +kernel
theorem dX0_bestKnot_12 : decode cX0_bestKnot 12 = .ok (.iload_n 3, 1) := by decide +kernel
theorem dX0_bestKnot_13 : decode cX0_bestKnot 13 = .ok (.invokevirtual 107, 3) := by decide +kernel
theorem dX0_bestKnot_16 : decode cX0_bestKnot 16 = .ok (.istore 4, 2) := by decide +kernel
theorem dX0_bestKnot_18 : decode cX0_bestKnot 18 = .ok (.iconst (-1), 1) := by decide +kernel
theorem dX0_bestKnot_19 : decode cX0_bestKnot 19 = .ok (.istore 5, 2) := by decide +kernel
theorem dX0_bestKnot_21 : decode cX0_bestKnot 21 = .ok (.iconst (-1), 1) := by decide +kernel
theorem dX0_bestKnot_22 : decode cX0_bestKnot 22 = .ok (.istore 6, 2) := by decide +kernel
theorem dX0_bestKnot_24 : decode cX0_bestKnot 24 = .ok (.iconst 0, 1) := by decide +kernel
theorem dX0_bestKnot_25 : decode cX0_bestKnot 25 = .ok (.istore 7, 2) := by decide +kernel
theorem dX0_bestKnot_27 : decode cX0_bestKnot 27 = .ok (.iload 7, 2) := by decide +kernel
theorem dX0_bestKnot_29 : decode cX0_bestKnot 29 = .ok (.iload 4, 2) := by decide +kernel
theorem dX0_bestKnot_31 : decode cX0_bestKnot 31 = .ok (.if_icmp .ge 43, 3) := by decide +kernel
theorem dX0_bestKnot_34 : decode cX0_bestKnot 34 = .ok (.aload_n 0, 1) := by decide +kernel
theorem dX0_bestKnot_35 : decode cX0_bestKnot 35 = .ok (.iload_n 3, 1) := by decide +kernel
theorem dX0_bestKnot_36 : decode cX0_bestKnot 36 = .ok (.iload 7, 2) := by decide +kernel
theorem dX0_bestKnot_38 : decode cX0_bestKnot 38 = .ok (.invokevirtual 113, 3) := by decide +kernel
theorem dX0_bestKnot_41 : decode cX0_bestKnot 41 = .ok (.istore 8, 2) := by decide +kernel
theorem dX0_bestKnot_43 : decode cX0_bestKnot 43 = .ok (.aload_n 0, 1) := by decide +kernel
theorem dX0_bestKnot_44 : decode cX0_bestKnot 44 = .ok (.iload_n 1, 1) := by decide +kernel
theorem dX0_bestKnot_45 : decode cX0_bestKnot 45 = .ok (.iload_n 2, 1) := by decide +kernel
theorem dX0_bestKnot_46 : decode cX0_bestKnot 46 = .ok (.iload 8, 2) := by decide +kernel
theorem dX0_bestKnot_48 : decode cX0_bestKnot 48 = .ok (.invokevirtual 143, 3) := by decide +kernel
theorem dX0_bestKnot_51 : decode cX0_bestKnot 51 = .ok (.istore 9, 2) := by decide +kernel
theorem dX0_bestKnot_53 : decode cX0_bestKnot 53 = .ok (.iload 9, 2) := by decide +kernel
theorem dX0_bestKnot_55 : decode cX0_bestKnot 55 = .ok (.iload 6, 2) := by decide +kernel
theorem dX0_bestKnot_57 : decode cX0_bestKnot 57 = .ok (.if_icmp .le 11, 3) := by decide +kernel
theorem dX0_bestKnot_60 : decode cX0_bestKnot 60 = .ok (.iload 8, 2) := by decide +kernel
theorem dX0_bestKnot_62 : decode cX0_bestKnot 62 = .ok (.istore 5, 2) := by decide +kernel
theorem dX0_bestKnot_64 : decode cX0_bestKnot 64 = .ok (.iload 9, 2) := by decide +kernel
theorem dX0_bestKnot_66 : decode cX0_bestKnot 66 = .ok (.istore 6, 2) := by decide +kernel
theorem dX0_bestKnot_68 : decode cX0_bestKnot 68 = .ok (.iinc 7 1, 3) := by decide +kernel
theorem dX0_bestKnot_71 : decode cX0_bestKnot 71 = .ok (.goto (-44), 3) := by decide +kernel
theorem dX0_bestKnot_74 : decode cX0_bestKnot 74 = .ok (.iload 5, 2) := by decide +kernel
theorem dX0_bestKnot_76 : decode cX0_bestKnot 76 = .ok (.ireturn, 1) := by decide +kernel
theorem dX0_strongestLine_0 : decode cX0_strongestLine 0 = .ok (.iconst (-1), 1) := by decide +kernel
theorem dX0_strongestLine_1 : decode cX0_strongestLine 1 = .ok (.istore_n 1, 1) := by decide +kernel
theorem dX0_strongestLine_2 : decode cX0_strongestLine 2 = .ok (.iconst (-1), 1) := by decide +kernel
theorem dX0_strongestLine_3 : decode cX0_strongestLine 3 = .ok (.istore_n 2, 1) := by decide +kernel
theorem dX0_strongestLine_4 : decode cX0_strongestLine 4 = .ok (.iconst 0, 1) := by decide +kernel
theorem dX0_strongestLine_5 : decode cX0_strongestLine 5 = .ok (.istore_n 3, 1) := by decide +kernel
theorem dX0_strongestLine_6 : decode cX0_strongestLine 6 = .ok (.iload_n 3, 1) := by decide +kernel
theorem dX0_strongestLine_7 : decode cX0_strongestLine 7 = .ok (.aload_n 0, 1) := by decide +kernel
theorem dX0_strongestLine_8 : decode cX0_strongestLine 8 = .ok (.getfield 32, 3) := by decide +kernel
theorem dX0_strongestLine_11 : decode cX0_strongestLine 11 = .ok (.if_icmp .ge 27, 3) := by decide +kernel
theorem dX0_strongestLine_14 : decode cX0_strongestLine 14 = .ok (.aload_n 0, 1) := by decide +kernel
theorem dX0_strongestLine_15 : decode cX0_strongestLine 15 = .ok (.iload_n 3, 1) := by decide +kernel
theorem dX0_strongestLine_16 : decode cX0_strongestLine 16 = .ok (.invokevirtual 147, 3) := by decide +kernel
theorem dX0_strongestLine_19 : decode cX0_strongestLine 19 = .ok (.istore 4, 2) := by decide +kernel
theorem dX0_strongestLine_21 : decode cX0_strongestLine 21 = .ok (.iload 4, 2) := by decide +kernel
theorem dX0_strongestLine_23 : decode cX0_strongestLine 23 = .ok (.iload_n 2, 1) := by decide +kernel
theorem dX0_strongestLine_24 : decode cX0_strongestLine 24 = .ok (.if_icmp .le 8, 3) := by decide +kernel
theorem dX0_strongestLine_27 : decode cX0_strongestLine 27 = .ok (.iload_n 3, 1) := by decide +kernel
theorem dX0_strongestLine_28 : decode cX0_strongestLine 28 = .ok (.istore_n 1, 1) := by decide +kernel
theorem dX0_strongestLine_29 : decode cX0_strongestLine 29 = .ok (.iload 4, 2) := by decide +kernel
theorem dX0_strongestLine_31 : decode cX0_strongestLine 31 = .ok (.istore_n 2, 1) := by decide +kernel
theorem dX0_strongestLine_32 : decode cX0_strongestLine 32 = .ok (.iinc 3 1, 3) := by decide +kernel
theorem dX0_strongestLine_35 : decode cX0_strongestLine 35 = .ok (.goto (-29), 3) := by decide +kernel
theorem dX0_strongestLine_38 : decode cX0_strongestLine 38 = .ok (.iload_n 1, 1) := by decide +kernel
theorem dX0_strongestLine_39 : decode cX0_strongestLine 39 = .ok (.ireturn, 1) := by decide +kernel
theorem dX0_meanEfficiency_0 : decode cX0_meanEfficiency 0 = .ok (.aload_n 0, 1) := by decide +kernel
theorem dX0_meanEfficiency_1 : decode cX0_meanEfficiency 1 = .ok (.getfield 25, 3) := by decide +kernel
theorem dX0_meanEfficiency_4 : decode cX0_meanEfficiency 4 = .ok (.ifCond .ne 5, 3) := by decide +kernel
theorem dX0_meanEfficiency_7 : decode cX0_meanEfficiency 7 = .ok (.dconst 0, 1) := by decide +kernel
theorem dX0_meanEfficiency_8 : decode cX0_meanEfficiency 8 = .ok (.dreturn, 1) := by decide +kernel
theorem dX0_meanEfficiency_9 : decode cX0_meanEfficiency 9 = .ok (.iconst 0, 1) := by decide +kernel
theorem dX0_meanEfficiency_10 : decode cX0_meanEfficiency 10 = .ok (.istore_n 1, 1) := by decide +kernel
theorem dX0_meanEfficiency_11 : decode cX0_meanEfficiency 11 = .ok (.iconst 0, 1) := by decide +kernel
theorem dX0_meanEfficiency_12 : decode cX0_meanEfficiency 12 = .ok (.istore_n 2, 1) := by decide +kernel
theorem dX0_meanEfficiency_13 : decode cX0_meanEfficiency 13 = .ok (.iload_n 2, 1) := by decide +kernel
theorem dX0_meanEfficiency_14 : decode cX0_meanEfficiency 14 = .ok (.aload_n 0, 1) := by decide +kernel
theorem dX0_meanEfficiency_15 : decode cX0_meanEfficiency 15 = .ok (.getfield 25, 3) := by decide +kernel
theorem dX0_meanEfficiency_18 : decode cX0_meanEfficiency 18 = .ok (.if_icmp .ge 18, 3) := by decide +kernel
theorem dX0_meanEfficiency_21 : decode cX0_meanEfficiency 21 = .ok (.iload_n 1, 1) := by decide +kernel
theorem dX0_meanEfficiency_22 : decode cX0_meanEfficiency 22 = .ok (.aload_n 0, 1) := by decide +kernel
theorem dX0_meanEfficiency_23 : decode cX0_meanEfficiency 23 = .ok (.getfield 13, 3) := by decide +kernel
theorem dX0_meanEfficiency_26 : decode cX0_meanEfficiency 26 = .ok (.iload_n 2, 1) := by decide +kernel
theorem dX0_meanEfficiency_27 : decode cX0_meanEfficiency 27 = .ok (.iaload, 1) := by decide +kernel
theorem dX0_meanEfficiency_28 : decode cX0_meanEfficiency 28 = .ok (.iadd, 1) := by decide +kernel
theorem dX0_meanEfficiency_29 : decode cX0_meanEfficiency 29 = .ok (.istore_n 1, 1) := by decide +kernel
theorem dX0_meanEfficiency_30 : decode cX0_meanEfficiency 30 = .ok (.iinc 2 1, 3) := by decide +kernel
theorem dX0_meanEfficiency_33 : decode cX0_meanEfficiency 33 = .ok (.goto (-20), 3) := by decide +kernel
theorem dX0_meanEfficiency_36 : decode cX0_meanEfficiency 36 = .ok (.iload_n 1, 1) := by decide +kernel
theorem dX0_meanEfficiency_37 : decode cX0_meanEfficiency 37 = .ok (.i2d, 1) := by decide +kernel
theorem dX0_meanEfficiency_38 : decode cX0_meanEfficiency 38 = .ok (.aload_n 0, 1) := by decide +kernel
theorem dX0_meanEfficiency_39 : decode cX0_meanEfficiency 39 = .ok (.getfield 25, 3) := by decide +kernel
theorem dX0_meanEfficiency_42 : decode cX0_meanEfficiency 42 = .ok (.i2d, 1) := by decide +kernel
theorem dX0_meanEfficiency_43 : decode cX0_meanEfficiency 43 = .ok (.ddiv, 1) := by decide +kernel
theorem dX0_meanEfficiency_44 : decode cX0_meanEfficiency 44 = .ok (.dreturn, 1) := by decide +kernel
theorem dX0_digest_0 : decode cX0_digest 0 = .ok (.ldc2_w 150, 3) := by decide +kernel
theorem dX0_digest_3 : decode cX0_digest 3 = .ok (.lstore_n 1, 1) := by decide +kernel
theorem dX0_digest_4 : decode cX0_digest 4 = .ok (.lload_n 1, 1) := by decide +kernel
theorem dX0_digest_5 : decode cX0_digest 5 = .ok (.aload_n 0, 1) := by decide +kernel
theorem dX0_digest_6 : decode cX0_digest 6 = .ok (.getfield 25, 3) := by decide +kernel
theorem dX0_digest_9 : decode cX0_digest 9 = .ok (.invokestatic 152, 3) := by decide +kernel
theorem dX0_digest_12 : decode cX0_digest 12 = .ok (.lstore_n 1, 1) := by decide +kernel
theorem dX0_digest_13 : decode cX0_digest 13 = .ok (.lload_n 1, 1) := by decide +kernel
theorem dX0_digest_14 : decode cX0_digest 14 = .ok (.aload_n 0, 1) := by decide +kernel
theorem dX0_digest_15 : decode cX0_digest 15 = .ok (.getfield 32, 3) := by decide +kernel
theorem dX0_digest_18 : decode cX0_digest 18 = .ok (.invokestatic 152, 3) := by decide +kernel
theorem dX0_digest_21 : decode cX0_digest 21 = .ok (.lstore_n 1, 1) := by decide +kernel
theorem dX0_digest_22 : decode cX0_digest 22 = .ok (.lload_n 1, 1) := by decide +kernel
theorem dX0_digest_23 : decode cX0_digest 23 = .ok (.aload_n 0, 1) := by decide +kernel
theorem dX0_digest_24 : decode cX0_digest 24 = .ok (.invokevirtual 156, 3) := by decide +kernel
theorem dX0_digest_27 : decode cX0_digest 27 = .ok (.invokestatic 152, 3) := by decide +kernel
theorem dX0_digest_30 : decode cX0_digest 30 = .ok (.lstore_n 1, 1) := by decide +kernel
theorem dX0_digest_31 : decode cX0_digest 31 = .ok (.iconst 0, 1) := by decide +kernel
theorem dX0_digest_32 : decode cX0_digest 32 = .ok (.istore_n 3, 1) := by decide +kernel
theorem dX0_digest_33 : decode cX0_digest 33 = .ok (.iload_n 3, 1) := by decide +kernel
theorem dX0_digest_34 : decode cX0_digest 34 = .ok (.aload_n 0, 1) := by decide +kernel
theorem dX0_digest_35 : decode cX0_digest 35 = .ok (.getfield 25, 3) := by decide +kernel
theorem dX0_digest_38 : decode cX0_digest 38 = .ok (.if_icmp .ge 16, 3) := by decide +kernel
theorem dX0_digest_41 : decode cX0_digest 41 = .ok (.aload_n 0, 1) := by decide +kernel
theorem dX0_digest_42 : decode cX0_digest 42 = .ok (.lload_n 1, 1) := by decide +kernel
theorem dX0_digest_43 : decode cX0_digest 43 = .ok (.iload_n 3, 1) := by decide +kernel
theorem dX0_digest_44 : decode cX0_digest 44 = .ok (.invokevirtual 160, 3) := by decide +kernel
theorem dX0_digest_47 : decode cX0_digest 47 = .ok (.lstore_n 1, 1) := by decide +kernel
theorem dX0_digest_48 : decode cX0_digest 48 = .ok (.iinc 3 1, 3) := by decide +kernel
theorem dX0_digest_51 : decode cX0_digest 51 = .ok (.goto (-18), 3) := by decide +kernel
theorem dX0_digest_54 : decode cX0_digest 54 = .ok (.iconst 0, 1) := by decide +kernel
theorem dX0_digest_55 : decode cX0_digest 55 = .ok (.istore_n 3, 1) := by decide +kernel
theorem dX0_digest_56 : decode cX0_digest 56 = .ok (.iload_n 3, 1) := by decide +kernel
theorem dX0_digest_57 : decode cX0_digest 57 = .ok (.aload_n 0, 1) := by decide +kernel
theorem dX0_digest_58 : decode cX0_digest 58 = .ok (.getfield 32, 3) := by decide +kernel
theorem dX0_digest_61 : decode cX0_digest 61 = .ok (.if_icmp .ge 16, 3) := by decide +kernel
theorem dX0_digest_64 : decode cX0_digest 64 = .ok (.aload_n 0, 1) := by decide +kernel
theorem dX0_digest_65 : decode cX0_digest 65 = .ok (.lload_n 1, 1) := by decide +kernel
theorem dX0_digest_66 : decode cX0_digest 66 = .ok (.iload_n 3, 1) := by decide +kernel
theorem dX0_digest_67 : decode cX0_digest 67 = .ok (.invokevirtual 163, 3) := by decide +kernel
theorem dX0_digest_70 : decode cX0_digest 70 = .ok (.lstore_n 1, 1) := by decide +kernel
theorem dX0_digest_71 : decode cX0_digest 71 = .ok (.iinc 3 1, 3) := by decide +kernel
theorem dX0_digest_74 : decode cX0_digest 74 = .ok (.goto (-18), 3) := by decide +kernel
theorem dX0_digest_77 : decode cX0_digest 77 = .ok (.lload_n 1, 1) := by decide +kernel
theorem dX0_digest_78 : decode cX0_digest 78 = .ok (.lreturn, 1) := by decide +kernel
theorem dX0_digestWithKnot_0 : decode cX0_digestWithKnot 0 = .ok (.lload_n 1, 1) := by decide +kernel
theorem dX0_digestWithKnot_1 : decode cX0_digestWithKnot 1 = .ok (.lstore 4, 2) := by decide +kernel
theorem dX0_digestWithKnot_3 : decode cX0_digestWithKnot 3 = .ok (.lload 4, 2) := by decide +kernel
theorem dX0_digestWithKnot_5 : decode cX0_digestWithKnot 5 = .ok (.aload_n 0, 1) := by decide +kernel
theorem dX0_digestWithKnot_6 : decode cX0_digestWithKnot 6 = .ok (.iload_n 3, 1) := by decide +kernel
theorem dX0_digestWithKnot_7 : decode cX0_digestWithKnot 7 = .ok (.invokevirtual 166, 3) := by decide +kernel
theorem dX0_digestWithKnot_10 : decode cX0_digestWithKnot 10 = .ok (.invokestatic 152, 3) := by decide +kernel
theorem dX0_digestWithKnot_13 : decode cX0_digestWithKnot 13 = .ok (.lstore 4, 2) := by decide +kernel
theorem dX0_digestWithKnot_15 : decode cX0_digestWithKnot 15 = .ok (.lload 4, 2) := by decide +kernel
theorem dX0_digestWithKnot_17 : decode cX0_digestWithKnot 17 = .ok (.aload_n 0, 1) := by decide +kernel
theorem dX0_digestWithKnot_18 : decode cX0_digestWithKnot 18 = .ok (.iload_n 3, 1) := by decide +kernel
theorem dX0_digestWithKnot_19 : decode cX0_digestWithKnot 19 = .ok (.invokevirtual 169, 3) := by decide +kernel
theorem dX0_digestWithKnot_22 : decode cX0_digestWithKnot 22 = .ok (.invokestatic 152, 3) := by decide +kernel
theorem dX0_digestWithKnot_25 : decode cX0_digestWithKnot 25 = .ok (.lstore 4, 2) := by decide +kernel
theorem dX0_digestWithKnot_27 : decode cX0_digestWithKnot 27 = .ok (.lload 4, 2) := by decide +kernel
theorem dX0_digestWithKnot_29 : decode cX0_digestWithKnot 29 = .ok (.aload_n 0, 1) := by decide +kernel
theorem dX0_digestWithKnot_30 : decode cX0_digestWithKnot 30 = .ok (.iload_n 3, 1) := by decide +kernel
theorem dX0_digestWithKnot_31 : decode cX0_digestWithKnot 31 = .ok (.invokevirtual 172, 3) := by decide +kernel
theorem dX0_digestWithKnot_34 : decode cX0_digestWithKnot 34 = .ok (.invokestatic 152, 3) := by decide +kernel
theorem dX0_digestWithKnot_37 : decode cX0_digestWithKnot 37 = .ok (.lstore 4, 2) := by decide +kernel
theorem dX0_digestWithKnot_39 : decode cX0_digestWithKnot 39 = .ok (.lload 4, 2) := by decide +kernel
theorem dX0_digestWithKnot_41 : decode cX0_digestWithKnot 41 = .ok (.aload_n 0, 1) := by decide +kernel
theorem dX0_digestWithKnot_42 : decode cX0_digestWithKnot 42 = .ok (.iload_n 3, 1) := by decide +kernel
theorem dX0_digestWithKnot_43 : decode cX0_digestWithKnot 43 = .ok (.invokevirtual 175, 3) := by decide +kernel
theorem dX0_digestWithKnot_46 : decode cX0_digestWithKnot 46 = .ok (.invokestatic 152, 3) := by decide +kernel
theorem dX0_digestWithKnot_49 : decode cX0_digestWithKnot 49 = .ok (.lstore 4, 2) := by decide +kernel
theorem dX0_digestWithKnot_51 : decode cX0_digestWithKnot 51 = .ok (.lload 4, 2) := by decide +kernel
theorem dX0_digestWithKnot_53 : decode cX0_digestWithKnot 53 = .ok (.aload_n 0, 1) := by decide +kernel
theorem dX0_digestWithKnot_54 : decode cX0_digestWithKnot 54 = .ok (.iload_n 3, 1) := by decide +kernel
theorem dX0_digestWithKnot_55 : decode cX0_digestWithKnot 55 = .ok (.invokevirtual 178, 3) := by decide +kernel
theorem dX0_digestWithKnot_58 : decode cX0_digestWithKnot 58 = .ok (.invokestatic 152, 3) := by decide +kernel
theorem dX0_digestWithKnot_61 : decode cX0_digestWithKnot 61 = .ok (.lstore 4, 2) := by decide +kernel
theorem dX0_digestWithKnot_63 : decode cX0_digestWithKnot 63 = .ok (.lload 4, 2) := by decide +kernel
theorem dX0_digestWithKnot_65 : decode cX0_digestWithKnot 65 = .ok (.aload_n 0, 1) := by decide +kernel
theorem dX0_digestWithKnot_66 : decode cX0_digestWithKnot 66 = .ok (.iload_n 3, 1) := by decide +kernel
theorem dX0_digestWithKnot_67 : decode cX0_digestWithKnot 67 = .ok (.invokevirtual 181, 3) := by decide +kernel
theorem dX0_digestWithKnot_70 : decode cX0_digestWithKnot 70 = .ok (.invokestatic 152, 3) := by decide +kernel
theorem dX0_digestWithKnot_73 : decode cX0_digestWithKnot 73 = .ok (.lstore 4, 2) := by decide +kernel
theorem dX0_digestWithKnot_75 : decode cX0_digestWithKnot 75 = .ok (.lload 4, 2) := by decide +kernel
theorem dX0_digestWithKnot_77 : decode cX0_digestWithKnot 77 = .ok (.aload_n 0, 1) := by decide +kernel
theorem dX0_digestWithKnot_78 : decode cX0_digestWithKnot 78 = .ok (.iload_n 3, 1) := by decide +kernel
theorem dX0_digestWithKnot_79 : decode cX0_digestWithKnot 79 = .ok (.invokevirtual 184, 3) := by decide +kernel
theorem dX0_digestWithKnot_82 : decode cX0_digestWithKnot 82 = .ok (.invokestatic 152, 3) := by decide +kernel
theorem dX0_digestWithKnot_85 : decode cX0_digestWithKnot 85 = .ok (.lreturn, 1) := by decide +kernel
theorem dX0_digestWithLine_0 : decode cX0_digestWithLine 0 = .ok (.lload_n 1, 1) := by decide +kernel
theorem dX0_digestWithLine_1 : decode cX0_digestWithLine 1 = .ok (.lstore 4, 2) := by decide +kernel
theorem dX0_digestWithLine_3 : decode cX0_digestWithLine 3 = .ok (.lload 4, 2) := by decide +kernel
theorem dX0_digestWithLine_5 : decode cX0_digestWithLine 5 = .ok (.aload_n 0, 1) := by decide +kernel
theorem dX0_digestWithLine_6 : decode cX0_digestWithLine 6 = .ok (.iload_n 3, 1) := by decide +kernel
theorem dX0_digestWithLine_7 : decode cX0_digestWithLine 7 = .ok (.invokevirtual 187, 3) := by decide +kernel
theorem dX0_digestWithLine_10 : decode cX0_digestWithLine 10 = .ok (.invokestatic 152, 3) := by decide +kernel
theorem dX0_digestWithLine_13 : decode cX0_digestWithLine 13 = .ok (.lstore 4, 2) := by decide +kernel
theorem dX0_digestWithLine_15 : decode cX0_digestWithLine 15 = .ok (.lload 4, 2) := by decide +kernel
theorem dX0_digestWithLine_17 : decode cX0_digestWithLine 17 = .ok (.aload_n 0, 1) := by decide +kernel
theorem dX0_digestWithLine_18 : decode cX0_digestWithLine 18 = .ok (.iload_n 3, 1) := by decide +kernel
theorem dX0_digestWithLine_19 : decode cX0_digestWithLine 19 = .ok (.invokevirtual 147, 3) := by decide +kernel
theorem dX0_digestWithLine_22 : decode cX0_digestWithLine 22 = .ok (.invokestatic 152, 3) := by decide +kernel
theorem dX0_digestWithLine_25 : decode cX0_digestWithLine 25 = .ok (.lstore 4, 2) := by decide +kernel
theorem dX0_digestWithLine_27 : decode cX0_digestWithLine 27 = .ok (.lload 4, 2) := by decide +kernel
theorem dX0_digestWithLine_29 : decode cX0_digestWithLine 29 = .ok (.aload_n 0, 1) := by decide +kernel
theorem dX0_digestWithLine_30 : decode cX0_digestWithLine 30 = .ok (.iload_n 3, 1) := by decide +kernel
theorem dX0_digestWithLine_31 : decode cX0_digestWithLine 31 = .ok (.invokevirtual 190, 3) := by decide +kernel
theorem dX0_digestWithLine_34 : decode cX0_digestWithLine 34 = .ok (.invokestatic 152, 3) := by decide +kernel
theorem dX0_digestWithLine_37 : decode cX0_digestWithLine 37 = .ok (.lstore 4, 2) := by decide +kernel
theorem dX0_digestWithLine_39 : decode cX0_digestWithLine 39 = .ok (.iconst 0, 1) := by decide +kernel
theorem dX0_digestWithLine_40 : decode cX0_digestWithLine 40 = .ok (.istore 6, 2) := by decide +kernel
theorem dX0_digestWithLine_42 : decode cX0_digestWithLine 42 = .ok (.iload 6, 2) := by decide +kernel
theorem dX0_digestWithLine_44 : decode cX0_digestWithLine 44 = .ok (.aload_n 0, 1) := by decide +kernel
theorem dX0_digestWithLine_45 : decode cX0_digestWithLine 45 = .ok (.getfield 29, 3) := by decide +kernel
theorem dX0_digestWithLine_48 : decode cX0_digestWithLine 48 = .ok (.iload_n 3, 1) := by decide +kernel
theorem dX0_digestWithLine_49 : decode cX0_digestWithLine 49 = .ok (.iaload, 1) := by decide +kernel
theorem dX0_digestWithLine_50 : decode cX0_digestWithLine 50 = .ok (.if_icmp .ge 37, 3) := by decide +kernel
theorem dX0_digestWithLine_53 : decode cX0_digestWithLine 53 = .ok (.lload 4, 2) := by decide +kernel
theorem dX0_digestWithLine_55 : decode cX0_digestWithLine 55 = .ok (.aload_n 0, 1) := by decide +kernel
theorem dX0_digestWithLine_56 : decode cX0_digestWithLine 56 = .ok (.iload_n 3, 1) := by decide +kernel
theorem dX0_digestWithLine_57 : decode cX0_digestWithLine 57 = .ok (.iload 6, 2) := by decide +kernel
theorem dX0_digestWithLine_59 : decode cX0_digestWithLine 59 = .ok (.invokevirtual 193, 3) := by decide +kernel
theorem dX0_digestWithLine_62 : decode cX0_digestWithLine 62 = .ok (.invokestatic 152, 3) := by decide +kernel
theorem dX0_digestWithLine_65 : decode cX0_digestWithLine 65 = .ok (.lstore 4, 2) := by decide +kernel
theorem dX0_digestWithLine_67 : decode cX0_digestWithLine 67 = .ok (.lload 4, 2) := by decide +kernel
theorem dX0_digestWithLine_69 : decode cX0_digestWithLine 69 = .ok (.aload_n 0, 1) := by decide +kernel
theorem dX0_digestWithLine_70 : decode cX0_digestWithLine 70 = .ok (.iload_n 3, 1) := by decide +kernel
theorem dX0_digestWithLine_71 : decode cX0_digestWithLine 71 = .ok (.iload 6, 2) := by decide +kernel
theorem dX0_digestWithLine_73 : decode cX0_digestWithLine 73 = .ok (.invokevirtual 196, 3) := by decide +kernel
theorem dX0_digestWithLine_76 : decode cX0_digestWithLine 76 = .ok (.invokestatic 152, 3) := by decide +kernel
theorem dX0_digestWithLine_79 : decode cX0_digestWithLine 79 = .ok (.lstore 4, 2) := by decide +kernel
theorem dX0_digestWithLine_81 : decode cX0_digestWithLine 81 = .ok (.iinc 6 1, 3) := by decide +kernel
theorem dX0_digestWithLine_84 : decode cX0_digestWithLine 84 = .ok (.goto (-42), 3) := by decide +kernel
theorem dX0_digestWithLine_87 : decode cX0_digestWithLine 87 = .ok (.lload 4, 2) := by decide +kernel
theorem dX0_digestWithLine_89 : decode cX0_digestWithLine 89 = .ok (.lreturn, 1) := by decide +kernel
theorem dX0_digestWith_0 : decode cX0_digestWith 0 = .ok (.lload_n 0, 1) := by decide +kernel
theorem dX0_digestWith_1 : decode cX0_digestWith 1 = .ok (.ldc2_w 199, 3) := by decide +kernel
theorem dX0_digestWith_4 : decode cX0_digestWith 4 = .ok (.lmul, 1) := by decide +kernel
theorem dX0_digestWith_5 : decode cX0_digestWith 5 = .ok (.iload_n 2, 1) := by decide +kernel
theorem dX0_digestWith_6 : decode cX0_digestWith 6 = .ok (.i2l, 1) := by decide +kernel
theorem dX0_digestWith_7 : decode cX0_digestWith 7 = .ok (.ladd, 1) := by decide +kernel
theorem dX0_digestWith_8 : decode cX0_digestWith 8 = .ok (.lreturn, 1) := by decide +kernel
theorem dX0_checkKind_0 : decode cX0_checkKind 0 = .ok (.iload_n 0, 1) := by decide +kernel
theorem dX0_checkKind_1 : decode cX0_checkKind 1 = .ok (.ifCond .eq 18, 3) := by decide +kernel
theorem dX0_checkKind_4 : decode cX0_checkKind 4 = .ok (.iload_n 0, 1) := by decide +kernel
theorem dX0_checkKind_5 : decode cX0_checkKind 5 = .ok (.iconst 1, 1) := by decide +kernel
theorem dX0_checkKind_6 : decode cX0_checkKind 6 = .ok (.if_icmp .eq 13, 3) := by decide +kernel
theorem dX0_checkKind_9 : decode cX0_checkKind 9 = .ok (.new 116, 3) := by decide +kernel
theorem dX0_checkKind_12 : decode cX0_checkKind 12 = .ok (.dup, 1) := by decide +kernel
theorem dX0_checkKind_13 : decode cX0_checkKind 13 = .ok (.ldc 201, 2) := by decide +kernel
theorem dX0_checkKind_15 : decode cX0_checkKind 15 = .ok (.invokespecial 120, 3) := by decide +kernel
theorem dX0_checkKind_18 : decode cX0_checkKind 18 = .ok (.athrow, 1) := by decide +kernel
theorem dX0_checkKind_19 : decode cX0_checkKind 19 = .ok (.return_, 1) := by decide +kernel
theorem dX0_checkKnot_0 : decode cX0_checkKnot 0 = .ok (.aload_n 0, 1) := by decide +kernel
theorem dX0_checkKnot_1 : decode cX0_checkKnot 1 = .ok (.iload_n 1, 1) := by decide +kernel
theorem dX0_checkKnot_2 : decode cX0_checkKnot 2 = .ok (.invokevirtual 125, 3) := by decide +kernel
theorem dX0_checkKnot_5 : decode cX0_checkKnot 5 = .ok (.ifCond .ne 13, 3) := by decide +kernel
theorem dX0_checkKnot_8 : decode cX0_checkKnot 8 = .ok (.new 116, 3) := by decide +kernel
theorem dX0_checkKnot_11 : decode cX0_checkKnot 11 = .ok (.dup, 1) := by decide +kernel
theorem dX0_checkKnot_12 : decode cX0_checkKnot 12 = .ok (.ldc 203, 2) := by decide +kernel
theorem dX0_checkKnot_14 : decode cX0_checkKnot 14 = .ok (.invokespecial 120, 3) := by decide +kernel
theorem dX0_checkKnot_17 : decode cX0_checkKnot 17 = .ok (.athrow, 1) := by decide +kernel
theorem dX0_checkKnot_18 : decode cX0_checkKnot 18 = .ok (.return_, 1) := by decide +kernel
theorem dX0_checkOfKind_0 : decode cX0_checkOfKind 0 = .ok (.aload_n 0, 1) := by decide +kernel
theorem dX0_checkOfKind_1 : decode cX0_checkOfKind 1 = .ok (.getfield 9, 3) := by decide +kernel
theorem dX0_checkOfKind_4 : decode cX0_checkOfKind 4 = .ok (.iload_n 1, 1) := by decide +kernel
theorem dX0_checkOfKind_5 : decode cX0_checkOfKind 5 = .ok (.iaload, 1) := by decide +kernel
theorem dX0_checkOfKind_6 : decode cX0_checkOfKind 6 = .ok (.iload_n 2, 1) := by decide +kernel
theorem dX0_checkOfKind_7 : decode cX0_checkOfKind 7 = .ok (.if_icmp .eq 13, 3) := by decide +kernel
theorem dX0_checkOfKind_10 : decode cX0_checkOfKind 10 = .ok (.new 45, 3) := by decide +kernel
theorem dX0_checkOfKind_13 : decode cX0_checkOfKind 13 = .ok (.dup, 1) := by decide +kernel
theorem dX0_checkOfKind_14 : decode cX0_checkOfKind 14 = .ok (.ldc 205, 2) := by decide +kernel
theorem dX0_checkOfKind_16 : decode cX0_checkOfKind 16 = .ok (.invokespecial 49, 3) := by decide +kernel
theorem dX0_checkOfKind_19 : decode cX0_checkOfKind 19 = .ok (.athrow, 1) := by decide +kernel
theorem dX0_checkOfKind_20 : decode cX0_checkOfKind 20 = .ok (.return_, 1) := by decide +kernel
theorem dX0_checkLoad_0 : decode cX0_checkLoad 0 = .ok (.iload_n 0, 1) := by decide +kernel
theorem dX0_checkLoad_1 : decode cX0_checkLoad 1 = .ok (.iconst 1, 1) := by decide +kernel
theorem dX0_checkLoad_2 : decode cX0_checkLoad 2 = .ok (.if_icmp .lt 10, 3) := by decide +kernel
theorem dX0_checkLoad_5 : decode cX0_checkLoad 5 = .ok (.iload_n 0, 1) := by decide +kernel
theorem dX0_checkLoad_6 : decode cX0_checkLoad 6 = .ok (.sipush 999, 3) := by decide +kernel
theorem dX0_checkLoad_9 : decode cX0_checkLoad 9 = .ok (.if_icmp .le 13, 3) := by decide +kernel
theorem dX0_checkLoad_12 : decode cX0_checkLoad 12 = .ok (.new 45, 3) := by decide +kernel
theorem dX0_checkLoad_15 : decode cX0_checkLoad 15 = .ok (.dup, 1) := by decide +kernel
theorem dX0_checkLoad_16 : decode cX0_checkLoad 16 = .ok (.ldc 207, 2) := by decide +kernel
theorem dX0_checkLoad_18 : decode cX0_checkLoad 18 = .ok (.invokespecial 49, 3) := by decide +kernel
theorem dX0_checkLoad_21 : decode cX0_checkLoad 21 = .ok (.athrow, 1) := by decide +kernel
theorem dX0_checkLoad_22 : decode cX0_checkLoad 22 = .ok (.return_, 1) := by decide +kernel
theorem dX0_checkStrength_0 : decode cX0_checkStrength 0 = .ok (.iload_n 0, 1) := by decide +kernel
theorem dX0_checkStrength_1 : decode cX0_checkStrength 1 = .ok (.iconst 1, 1) := by decide +kernel
theorem dX0_checkStrength_2 : decode cX0_checkStrength 2 = .ok (.if_icmp .lt 10, 3) := by decide +kernel
theorem dX0_checkStrength_5 : decode cX0_checkStrength 5 = .ok (.iload_n 0, 1) := by decide +kernel
theorem dX0_checkStrength_6 : decode cX0_checkStrength 6 = .ok (.sipush 999, 3) := by decide +kernel
theorem dX0_checkStrength_9 : decode cX0_checkStrength 9 = .ok (.if_icmp .le 13, 3) := by decide +kernel
theorem dX0_checkStrength_12 : decode cX0_checkStrength 12 = .ok (.new 45, 3) := by decide +kernel
theorem dX0_checkStrength_15 : decode cX0_checkStrength 15 = .ok (.dup, 1) := by decide +kernel
theorem dX0_checkStrength_16 : decode cX0_checkStrength 16 = .ok (.ldc 209, 2) := by decide +kernel
theorem dX0_checkStrength_18 : decode cX0_checkStrength 18 = .ok (.invokespecial 49, 3) := by decide +kernel
theorem dX0_checkStrength_21 : decode cX0_checkStrength 21 = .ok (.athrow, 1) := by decide +kernel
theorem dX0_checkStrength_22 : decode cX0_checkStrength 22 = .ok (.return_, 1) := by decide +kernel
theorem dX0_checkLine_0 : decode cX0_checkLine 0 = .ok (.iload_n 1, 1) := by decide +kernel
theorem dX0_checkLine_1 : decode cX0_checkLine 1 = .ok (.ifCond .lt 11, 3) := by decide +kernel
theorem dX0_checkLine_4 : decode cX0_checkLine 4 = .ok (.iload_n 1, 1) := by decide +kernel
theorem dX0_checkLine_5 : decode cX0_checkLine 5 = .ok (.aload_n 0, 1) := by decide +kernel
theorem dX0_checkLine_6 : decode cX0_checkLine 6 = .ok (.getfield 32, 3) := by decide +kernel
theorem dX0_checkLine_9 : decode cX0_checkLine 9 = .ok (.if_icmp .lt 13, 3) := by decide +kernel
theorem dX0_checkLine_12 : decode cX0_checkLine 12 = .ok (.new 116, 3) := by decide +kernel
theorem dX0_checkLine_15 : decode cX0_checkLine 15 = .ok (.dup, 1) := by decide +kernel
theorem dX0_checkLine_16 : decode cX0_checkLine 16 = .ok (.ldc 211, 2) := by decide +kernel
theorem dX0_checkLine_18 : decode cX0_checkLine 18 = .ok (.invokespecial 120, 3) := by decide +kernel
theorem dX0_checkLine_21 : decode cX0_checkLine 21 = .ok (.athrow, 1) := by decide +kernel
theorem dX0_checkLine_22 : decode cX0_checkLine 22 = .ok (.return_, 1) := by decide +kernel
theorem dX0_checkPlace_0 : decode cX0_checkPlace 0 = .ok (.aload_n 0, 1) := by decide +kernel
theorem dX0_checkPlace_1 : decode cX0_checkPlace 1 = .ok (.iload_n 1, 1) := by decide +kernel
theorem dX0_checkPlace_2 : decode cX0_checkPlace 2 = .ok (.invokevirtual 82, 3) := by decide +kernel
theorem dX0_checkPlace_5 : decode cX0_checkPlace 5 = .ok (.iload_n 2, 1) := by decide +kernel
theorem dX0_checkPlace_6 : decode cX0_checkPlace 6 = .ok (.ifCond .lt 13, 3) := by decide +kernel
theorem dX0_checkPlace_9 : decode cX0_checkPlace 9 = .ok (.iload_n 2, 1) := by decide +kernel
theorem dX0_checkPlace_10 : decode cX0_checkPlace 10 = .ok (.aload_n 0, 1) := by decide +kernel
theorem dX0_checkPlace_11 : decode cX0_checkPlace 11 = .ok (.getfield 29, 3) := by decide +kernel
theorem dX0_checkPlace_14 : decode cX0_checkPlace 14 = .ok (.iload_n 1, 1) := by decide +kernel
theorem dX0_checkPlace_15 : decode cX0_checkPlace 15 = .ok (.iaload, 1) := by decide +kernel
theorem dX0_checkPlace_16 : decode cX0_checkPlace 16 = .ok (.if_icmp .lt 13, 3) := by decide +kernel
theorem dX0_checkPlace_19 : decode cX0_checkPlace 19 = .ok (.new 116, 3) := by decide +kernel
theorem dX0_checkPlace_22 : decode cX0_checkPlace 22 = .ok (.dup, 1) := by decide +kernel
theorem dX0_checkPlace_23 : decode cX0_checkPlace 23 = .ok (.ldc 213, 2) := by decide +kernel
theorem dX0_checkPlace_25 : decode cX0_checkPlace 25 = .ok (.invokespecial 120, 3) := by decide +kernel
theorem dX0_checkPlace_28 : decode cX0_checkPlace 28 = .ok (.athrow, 1) := by decide +kernel
theorem dX0_checkPlace_29 : decode cX0_checkPlace 29 = .ok (.return_, 1) := by decide +kernel
theorem dX0_checkNotGone_0 : decode cX0_checkNotGone 0 = .ok (.aload_n 0, 1) := by decide +kernel
theorem dX0_checkNotGone_1 : decode cX0_checkNotGone 1 = .ok (.iload_n 1, 1) := by decide +kernel
theorem dX0_checkNotGone_2 : decode cX0_checkNotGone 2 = .ok (.invokevirtual 140, 3) := by decide +kernel
theorem dX0_checkNotGone_5 : decode cX0_checkNotGone 5 = .ok (.ifCond .eq 13, 3) := by decide +kernel
theorem dX0_checkNotGone_8 : decode cX0_checkNotGone 8 = .ok (.new 54, 3) := by decide +kernel
theorem dX0_checkNotGone_11 : decode cX0_checkNotGone 11 = .ok (.dup, 1) := by decide +kernel
theorem dX0_checkNotGone_12 : decode cX0_checkNotGone 12 = .ok (.ldc 215, 2) := by decide +kernel
theorem dX0_checkNotGone_14 : decode cX0_checkNotGone 14 = .ok (.invokespecial 58, 3) := by decide +kernel
theorem dX0_checkNotGone_17 : decode cX0_checkNotGone 17 = .ok (.athrow, 1) := by decide +kernel
theorem dX0_checkNotGone_18 : decode cX0_checkNotGone 18 = .ok (.return_, 1) := by decide +kernel
theorem dX0_isKnot_0 : decode cX0_isKnot 0 = .ok (.iload_n 1, 1) := by decide +kernel
theorem dX0_isKnot_1 : decode cX0_isKnot 1 = .ok (.ifCond .lt 15, 3) := by decide +kernel
theorem dX0_isKnot_4 : decode cX0_isKnot 4 = .ok (.iload_n 1, 1) := by decide +kernel
theorem dX0_isKnot_5 : decode cX0_isKnot 5 = .ok (.aload_n 0, 1) := by decide +kernel
theorem dX0_isKnot_6 : decode cX0_isKnot 6 = .ok (.getfield 25, 3) := by decide +kernel
theorem dX0_isKnot_9 : decode cX0_isKnot 9 = .ok (.if_icmp .ge 7, 3) := by decide +kernel
theorem dX0_isKnot_12 : decode cX0_isKnot 12 = .ok (.iconst 1, 1) := by decide +kernel
theorem dX0_isKnot_13 : decode cX0_isKnot 13 = .ok (.goto 4, 3) := by decide +kernel
theorem dX0_isKnot_16 : decode cX0_isKnot 16 = .ok (.iconst 0, 1) := by decide +kernel
theorem dX0_isKnot_17 : decode cX0_isKnot 17 = .ok (.ireturn, 1) := by decide +kernel
theorem dX0_countOfKind_0 : decode cX0_countOfKind 0 = .ok (.iconst 0, 1) := by decide +kernel
theorem dX0_countOfKind_1 : decode cX0_countOfKind 1 = .ok (.istore_n 2, 1) := by decide +kernel
theorem dX0_countOfKind_2 : decode cX0_countOfKind 2 = .ok (.iconst 0, 1) := by decide +kernel
theorem dX0_countOfKind_3 : decode cX0_countOfKind 3 = .ok (.istore_n 3, 1) := by decide +kernel
theorem dX0_countOfKind_4 : decode cX0_countOfKind 4 = .ok (.iload_n 3, 1) := by decide +kernel
theorem dX0_countOfKind_5 : decode cX0_countOfKind 5 = .ok (.aload_n 0, 1) := by decide +kernel
theorem dX0_countOfKind_6 : decode cX0_countOfKind 6 = .ok (.getfield 25, 3) := by decide +kernel
theorem dX0_countOfKind_9 : decode cX0_countOfKind 9 = .ok (.if_icmp .ge 22, 3) := by decide +kernel
theorem dX0_countOfKind_12 : decode cX0_countOfKind 12 = .ok (.aload_n 0, 1) := by decide +kernel
theorem dX0_countOfKind_13 : decode cX0_countOfKind 13 = .ok (.getfield 9, 3) := by decide +kernel
theorem dX0_countOfKind_16 : decode cX0_countOfKind 16 = .ok (.iload_n 3, 1) := by decide +kernel
theorem dX0_countOfKind_17 : decode cX0_countOfKind 17 = .ok (.iaload, 1) := by decide +kernel
theorem dX0_countOfKind_18 : decode cX0_countOfKind 18 = .ok (.iload_n 1, 1) := by decide +kernel
theorem dX0_countOfKind_19 : decode cX0_countOfKind 19 = .ok (.if_icmp .ne 6, 3) := by decide +kernel
theorem dX0_countOfKind_22 : decode cX0_countOfKind 22 = .ok (.iinc 2 1, 3) := by decide +kernel
theorem dX0_countOfKind_25 : decode cX0_countOfKind 25 = .ok (.iinc 3 1, 3) := by decide +kernel
theorem dX0_countOfKind_28 : decode cX0_countOfKind 28 = .ok (.goto (-24), 3) := by decide +kernel
theorem dX0_countOfKind_31 : decode cX0_countOfKind 31 = .ok (.iload_n 2, 1) := by decide +kernel
theorem dX0_countOfKind_32 : decode cX0_countOfKind 32 = .ok (.ireturn, 1) := by decide +kernel
theorem dX0_rankInKind_0 : decode cX0_rankInKind 0 = .ok (.iconst 0, 1) := by decide +kernel
theorem dX0_rankInKind_1 : decode cX0_rankInKind 1 = .ok (.istore_n 2, 1) := by decide +kernel
theorem dX0_rankInKind_2 : decode cX0_rankInKind 2 = .ok (.iconst 0, 1) := by decide +kernel
theorem dX0_rankInKind_3 : decode cX0_rankInKind 3 = .ok (.istore_n 3, 1) := by decide +kernel
theorem dX0_rankInKind_4 : decode cX0_rankInKind 4 = .ok (.iload_n 3, 1) := by decide +kernel
theorem dX0_rankInKind_5 : decode cX0_rankInKind 5 = .ok (.aload_n 0, 1) := by decide +kernel
theorem dX0_rankInKind_6 : decode cX0_rankInKind 6 = .ok (.getfield 25, 3) := by decide +kernel
theorem dX0_rankInKind_9 : decode cX0_rankInKind 9 = .ok (.if_icmp .ge 36, 3) := by decide +kernel
theorem dX0_rankInKind_12 : decode cX0_rankInKind 12 = .ok (.aload_n 0, 1) := by decide +kernel
theorem dX0_rankInKind_13 : decode cX0_rankInKind 13 = .ok (.getfield 9, 3) := by decide +kernel
theorem dX0_rankInKind_16 : decode cX0_rankInKind 16 = .ok (.iload_n 3, 1) := by decide +kernel
theorem dX0_rankInKind_17 : decode cX0_rankInKind 17 = .ok (.iaload, 1) := by decide +kernel
theorem dX0_rankInKind_18 : decode cX0_rankInKind 18 = .ok (.aload_n 0, 1) := by decide +kernel
theorem dX0_rankInKind_19 : decode cX0_rankInKind 19 = .ok (.getfield 9, 3) := by decide +kernel
theorem dX0_rankInKind_22 : decode cX0_rankInKind 22 = .ok (.iload_n 1, 1) := by decide +kernel
theorem dX0_rankInKind_23 : decode cX0_rankInKind 23 = .ok (.iaload, 1) := by decide +kernel
theorem dX0_rankInKind_24 : decode cX0_rankInKind 24 = .ok (.if_icmp .ne 15, 3) := by decide +kernel
theorem dX0_rankInKind_27 : decode cX0_rankInKind 27 = .ok (.aload_n 0, 1) := by decide +kernel
theorem dX0_rankInKind_28 : decode cX0_rankInKind 28 = .ok (.iload_n 3, 1) := by decide +kernel
theorem dX0_rankInKind_29 : decode cX0_rankInKind 29 = .ok (.iload_n 1, 1) := by decide +kernel
theorem dX0_rankInKind_30 : decode cX0_rankInKind 30 = .ok (.invokevirtual 217, 3) := by decide +kernel
theorem dX0_rankInKind_33 : decode cX0_rankInKind 33 = .ok (.ifCond .eq 6, 3) := by decide +kernel
theorem dX0_rankInKind_36 : decode cX0_rankInKind 36 = .ok (.iinc 2 1, 3) := by decide +kernel
theorem dX0_rankInKind_39 : decode cX0_rankInKind 39 = .ok (.iinc 3 1, 3) := by decide +kernel
theorem dX0_rankInKind_42 : decode cX0_rankInKind 42 = .ok (.goto (-38), 3) := by decide +kernel
theorem dX0_rankInKind_45 : decode cX0_rankInKind 45 = .ok (.iload_n 2, 1) := by decide +kernel
theorem dX0_rankInKind_46 : decode cX0_rankInKind 46 = .ok (.ireturn, 1) := by decide +kernel
theorem dX0_isAheadOf_0 : decode cX0_isAheadOf 0 = .ok (.aload_n 0, 1) := by decide +kernel
theorem dX0_isAheadOf_1 : decode cX0_isAheadOf 1 = .ok (.getfield 13, 3) := by decide +kernel
theorem dX0_isAheadOf_4 : decode cX0_isAheadOf 4 = .ok (.iload_n 1, 1) := by decide +kernel
theorem dX0_isAheadOf_5 : decode cX0_isAheadOf 5 = .ok (.iaload, 1) := by decide +kernel
theorem dX0_isAheadOf_6 : decode cX0_isAheadOf 6 = .ok (.aload_n 0, 1) := by decide +kernel
theorem dX0_isAheadOf_7 : decode cX0_isAheadOf 7 = .ok (.getfield 13, 3) := by decide +kernel
theorem dX0_isAheadOf_10 : decode cX0_isAheadOf 10 = .ok (.iload_n 2, 1) := by decide +kernel
theorem dX0_isAheadOf_11 : decode cX0_isAheadOf 11 = .ok (.iaload, 1) := by decide +kernel
theorem dX0_isAheadOf_12 : decode cX0_isAheadOf 12 = .ok (.if_icmp .eq 24, 3) := by decide +kernel
theorem dX0_isAheadOf_15 : decode cX0_isAheadOf 15 = .ok (.aload_n 0, 1) := by decide +kernel
theorem dX0_isAheadOf_16 : decode cX0_isAheadOf 16 = .ok (.getfield 13, 3) := by decide +kernel
theorem dX0_isAheadOf_19 : decode cX0_isAheadOf 19 = .ok (.iload_n 1, 1) := by decide +kernel
theorem dX0_isAheadOf_20 : decode cX0_isAheadOf 20 = .ok (.iaload, 1) := by decide +kernel
theorem dX0_isAheadOf_21 : decode cX0_isAheadOf 21 = .ok (.aload_n 0, 1) := by decide +kernel
theorem dX0_isAheadOf_22 : decode cX0_isAheadOf 22 = .ok (.getfield 13, 3) := by decide +kernel
theorem dX0_isAheadOf_25 : decode cX0_isAheadOf 25 = .ok (.iload_n 2, 1) := by decide +kernel
theorem dX0_isAheadOf_26 : decode cX0_isAheadOf 26 = .ok (.iaload, 1) := by decide +kernel
theorem dX0_isAheadOf_27 : decode cX0_isAheadOf 27 = .ok (.if_icmp .le 7, 3) := by decide +kernel
theorem dX0_isAheadOf_30 : decode cX0_isAheadOf 30 = .ok (.iconst 1, 1) := by decide +kernel
theorem dX0_isAheadOf_31 : decode cX0_isAheadOf 31 = .ok (.goto 4, 3) := by decide +kernel
theorem dX0_isAheadOf_34 : decode cX0_isAheadOf 34 = .ok (.iconst 0, 1) := by decide +kernel
theorem dX0_isAheadOf_35 : decode cX0_isAheadOf 35 = .ok (.ireturn, 1) := by decide +kernel
theorem dX0_isAheadOf_36 : decode cX0_isAheadOf 36 = .ok (.aload_n 0, 1) := by decide +kernel
theorem dX0_isAheadOf_37 : decode cX0_isAheadOf 37 = .ok (.getfield 16, 3) := by decide +kernel
theorem dX0_isAheadOf_40 : decode cX0_isAheadOf 40 = .ok (.iload_n 1, 1) := by decide +kernel
theorem dX0_isAheadOf_41 : decode cX0_isAheadOf 41 = .ok (.iaload, 1) := by decide +kernel
theorem dX0_isAheadOf_42 : decode cX0_isAheadOf 42 = .ok (.aload_n 0, 1) := by decide +kernel
theorem dX0_isAheadOf_43 : decode cX0_isAheadOf 43 = .ok (.getfield 16, 3) := by decide +kernel
theorem dX0_isAheadOf_46 : decode cX0_isAheadOf 46 = .ok (.iload_n 2, 1) := by decide +kernel
theorem dX0_isAheadOf_47 : decode cX0_isAheadOf 47 = .ok (.iaload, 1) := by decide +kernel
theorem dX0_isAheadOf_48 : decode cX0_isAheadOf 48 = .ok (.if_icmp .eq 24, 3) := by decide +kernel
theorem dX0_isAheadOf_51 : decode cX0_isAheadOf 51 = .ok (.aload_n 0, 1) := by decide +kernel
theorem dX0_isAheadOf_52 : decode cX0_isAheadOf 52 = .ok (.getfield 16, 3) := by decide +kernel
theorem dX0_isAheadOf_55 : decode cX0_isAheadOf 55 = .ok (.iload_n 1, 1) := by decide +kernel
theorem dX0_isAheadOf_56 : decode cX0_isAheadOf 56 = .ok (.iaload, 1) := by decide +kernel
theorem dX0_isAheadOf_57 : decode cX0_isAheadOf 57 = .ok (.aload_n 0, 1) := by decide +kernel
theorem dX0_isAheadOf_58 : decode cX0_isAheadOf 58 = .ok (.getfield 16, 3) := by decide +kernel
theorem dX0_isAheadOf_61 : decode cX0_isAheadOf 61 = .ok (.iload_n 2, 1) := by decide +kernel
theorem dX0_isAheadOf_62 : decode cX0_isAheadOf 62 = .ok (.iaload, 1) := by decide +kernel
theorem dX0_isAheadOf_63 : decode cX0_isAheadOf 63 = .ok (.if_icmp .ge 7, 3) := by decide +kernel
theorem dX0_isAheadOf_66 : decode cX0_isAheadOf 66 = .ok (.iconst 1, 1) := by decide +kernel
theorem dX0_isAheadOf_67 : decode cX0_isAheadOf 67 = .ok (.goto 4, 3) := by decide +kernel
theorem dX0_isAheadOf_70 : decode cX0_isAheadOf 70 = .ok (.iconst 0, 1) := by decide +kernel
theorem dX0_isAheadOf_71 : decode cX0_isAheadOf 71 = .ok (.ireturn, 1) := by decide +kernel
theorem dX0_isAheadOf_72 : decode cX0_isAheadOf 72 = .ok (.iload_n 1, 1) := by decide +kernel
theorem dX0_isAheadOf_73 : decode cX0_isAheadOf 73 = .ok (.iload_n 2, 1) := by decide +kernel
theorem dX0_isAheadOf_74 : decode cX0_isAheadOf 74 = .ok (.if_icmp .ge 7, 3) := by decide +kernel
theorem dX0_isAheadOf_77 : decode cX0_isAheadOf 77 = .ok (.iconst 1, 1) := by decide +kernel
theorem dX0_isAheadOf_78 : decode cX0_isAheadOf 78 = .ok (.goto 4, 3) := by decide +kernel
theorem dX0_isAheadOf_81 : decode cX0_isAheadOf 81 = .ok (.iconst 0, 1) := by decide +kernel
theorem dX0_isAheadOf_82 : decode cX0_isAheadOf 82 = .ok (.ireturn, 1) := by decide +kernel
theorem dX0_knotWithRank_0 : decode cX0_knotWithRank 0 = .ok (.iconst 0, 1) := by decide +kernel
theorem dX0_knotWithRank_1 : decode cX0_knotWithRank 1 = .ok (.istore_n 3, 1) := by decide +kernel
theorem dX0_knotWithRank_2 : decode cX0_knotWithRank 2 = .ok (.iload_n 3, 1) := by decide +kernel
theorem dX0_knotWithRank_3 : decode cX0_knotWithRank 3 = .ok (.aload_n 0, 1) := by decide +kernel
theorem dX0_knotWithRank_4 : decode cX0_knotWithRank 4 = .ok (.getfield 25, 3) := by decide +kernel
theorem dX0_knotWithRank_7 : decode cX0_knotWithRank 7 = .ok (.if_icmp .ge 30, 3) := by decide +kernel
theorem dX0_knotWithRank_10 : decode cX0_knotWithRank 10 = .ok (.aload_n 0, 1) := by decide +kernel
theorem dX0_knotWithRank_11 : decode cX0_knotWithRank 11 = .ok (.getfield 9, 3) := by decide +kernel
theorem dX0_knotWithRank_14 : decode cX0_knotWithRank 14 = .ok (.iload_n 3, 1) := by decide +kernel
theorem dX0_knotWithRank_15 : decode cX0_knotWithRank 15 = .ok (.iaload, 1) := by decide +kernel
theorem dX0_knotWithRank_16 : decode cX0_knotWithRank 16 = .ok (.iload_n 1, 1) := by decide +kernel
theorem dX0_knotWithRank_17 : decode cX0_knotWithRank 17 = .ok (.if_icmp .ne 14, 3) := by decide +kernel
theorem dX0_knotWithRank_20 : decode cX0_knotWithRank 20 = .ok (.aload_n 0, 1) := by decide +kernel
theorem dX0_knotWithRank_21 : decode cX0_knotWithRank 21 = .ok (.iload_n 3, 1) := by decide +kernel
theorem dX0_knotWithRank_22 : decode cX0_knotWithRank 22 = .ok (.invokevirtual 110, 3) := by decide +kernel
theorem dX0_knotWithRank_25 : decode cX0_knotWithRank 25 = .ok (.iload_n 2, 1) := by decide +kernel
theorem dX0_knotWithRank_26 : decode cX0_knotWithRank 26 = .ok (.if_icmp .ne 5, 3) := by decide +kernel
theorem dX0_knotWithRank_29 : decode cX0_knotWithRank 29 = .ok (.iload_n 3, 1) := by decide +kernel
theorem dX0_knotWithRank_30 : decode cX0_knotWithRank 30 = .ok (.ireturn, 1) := by decide +kernel
theorem dX0_knotWithRank_31 : decode cX0_knotWithRank 31 = .ok (.iinc 3 1, 3) := by decide +kernel
theorem dX0_knotWithRank_34 : decode cX0_knotWithRank 34 = .ok (.goto (-32), 3) := by decide +kernel
theorem dX0_knotWithRank_37 : decode cX0_knotWithRank 37 = .ok (.iconst (-1), 1) := by decide +kernel
theorem dX0_knotWithRank_38 : decode cX0_knotWithRank 38 = .ok (.ireturn, 1) := by decide +kernel
theorem dX0_spillsUnder_0 : decode cX0_spillsUnder 0 = .ok (.aload_n 0, 1) := by decide +kernel
theorem dX0_spillsUnder_1 : decode cX0_spillsUnder 1 = .ok (.iload_n 1, 1) := by decide +kernel
theorem dX0_spillsUnder_2 : decode cX0_spillsUnder 2 = .ok (.invokevirtual 125, 3) := by decide +kernel
theorem dX0_spillsUnder_5 : decode cX0_spillsUnder 5 = .ok (.ifCond .eq 26, 3) := by decide +kernel
theorem dX0_spillsUnder_8 : decode cX0_spillsUnder 8 = .ok (.aload_n 0, 1) := by decide +kernel
theorem dX0_spillsUnder_9 : decode cX0_spillsUnder 9 = .ok (.getfield 19, 3) := by decide +kernel
theorem dX0_spillsUnder_12 : decode cX0_spillsUnder 12 = .ok (.iload_n 1, 1) := by decide +kernel
theorem dX0_spillsUnder_13 : decode cX0_spillsUnder 13 = .ok (.iaload, 1) := by decide +kernel
theorem dX0_spillsUnder_14 : decode cX0_spillsUnder 14 = .ok (.ifCond .eq 17, 3) := by decide +kernel
theorem dX0_spillsUnder_17 : decode cX0_spillsUnder 17 = .ok (.aload_n 0, 1) := by decide +kernel
theorem dX0_spillsUnder_18 : decode cX0_spillsUnder 18 = .ok (.getfield 19, 3) := by decide +kernel
theorem dX0_spillsUnder_21 : decode cX0_spillsUnder 21 = .ok (.iload_n 1, 1) := by decide +kernel
theorem dX0_spillsUnder_22 : decode cX0_spillsUnder 22 = .ok (.iaload, 1) := by decide +kernel
theorem dX0_spillsUnder_23 : decode cX0_spillsUnder 23 = .ok (.iload_n 2, 1) := by decide +kernel
theorem dX0_spillsUnder_24 : decode cX0_spillsUnder 24 = .ok (.if_icmp .gt 7, 3) := by decide +kernel
theorem dX0_spillsUnder_27 : decode cX0_spillsUnder 27 = .ok (.iconst 1, 1) := by decide +kernel
theorem dX0_spillsUnder_28 : decode cX0_spillsUnder 28 = .ok (.goto 4, 3) := by decide +kernel
theorem dX0_spillsUnder_31 : decode cX0_spillsUnder 31 = .ok (.iconst 0, 1) := by decide +kernel
theorem dX0_spillsUnder_32 : decode cX0_spillsUnder 32 = .ok (.ireturn, 1) := by decide +kernel
theorem dX0_formUnder_0 : decode cX0_formUnder 0 = .ok (.iload_n 1, 1) := by decide +kernel
theorem dX0_formUnder_1 : decode cX0_formUnder 1 = .ok (.istore_n 3, 1) := by decide +kernel
theorem dX0_formUnder_2 : decode cX0_formUnder 2 = .ok (.iconst 0, 1) := by decide +kernel
theorem dX0_formUnder_3 : decode cX0_formUnder 3 = .ok (.istore 4, 2) := by decide +kernel
theorem dX0_formUnder_5 : decode cX0_formUnder 5 = .ok (.iload 4, 2) := by decide +kernel
theorem dX0_formUnder_7 : decode cX0_formUnder 7 = .ok (.bipush 16, 2) := by decide +kernel
theorem dX0_formUnder_9 : decode cX0_formUnder 9 = .ok (.if_icmp .ge 25, 3) := by decide +kernel
theorem dX0_formUnder_12 : decode cX0_formUnder 12 = .ok (.aload_n 0, 1) := by decide +kernel
theorem dX0_formUnder_13 : decode cX0_formUnder 13 = .ok (.iload_n 3, 1) := by decide +kernel
theorem dX0_formUnder_14 : decode cX0_formUnder 14 = .ok (.iload_n 2, 1) := by decide +kernel
theorem dX0_formUnder_15 : decode cX0_formUnder 15 = .ok (.invokevirtual 121, 3) := by decide +kernel
theorem dX0_formUnder_18 : decode cX0_formUnder 18 = .ok (.ifCond .eq 16, 3) := by decide +kernel
theorem dX0_formUnder_21 : decode cX0_formUnder 21 = .ok (.aload_n 0, 1) := by decide +kernel
theorem dX0_formUnder_22 : decode cX0_formUnder 22 = .ok (.getfield 22, 3) := by decide +kernel
theorem dX0_formUnder_25 : decode cX0_formUnder 25 = .ok (.iload_n 3, 1) := by decide +kernel
theorem dX0_formUnder_26 : decode cX0_formUnder 26 = .ok (.iaload, 1) := by decide +kernel
theorem dX0_formUnder_27 : decode cX0_formUnder 27 = .ok (.istore_n 3, 1) := by decide +kernel
theorem dX0_formUnder_28 : decode cX0_formUnder 28 = .ok (.iinc 4 1, 3) := by decide +kernel
theorem dX0_formUnder_31 : decode cX0_formUnder 31 = .ok (.goto (-26), 3) := by decide +kernel
theorem dX0_formUnder_34 : decode cX0_formUnder 34 = .ok (.iload_n 3, 1) := by decide +kernel
theorem dX0_formUnder_35 : decode cX0_formUnder 35 = .ok (.ireturn, 1) := by decide +kernel
theorem dX0_slot_0 : decode cX0_slot 0 = .ok (.iload_n 0, 1) := by decide +kernel
theorem dX0_slot_1 : decode cX0_slot 1 = .ok (.iconst 5, 1) := by decide +kernel
theorem dX0_slot_2 : decode cX0_slot 2 = .ok (.imul, 1) := by decide +kernel
theorem dX0_slot_3 : decode cX0_slot 3 = .ok (.iload_n 1, 1) := by decide +kernel
theorem dX0_slot_4 : decode cX0_slot 4 = .ok (.iadd, 1) := by decide +kernel
theorem dX0_slot_5 : decode cX0_slot 5 = .ok (.ireturn, 1) := by decide +kernel
theorem dX0_kindDueAt_0 : decode cX0_kindDueAt 0 = .ok (.iload_n 0, 1) := by decide +kernel
theorem dX0_kindDueAt_1 : decode cX0_kindDueAt 1 = .ok (.ifCond .ne 7, 3) := by decide +kernel
theorem dX0_kindDueAt_4 : decode cX0_kindDueAt 4 = .ok (.iconst 1, 1) := by decide +kernel
theorem dX0_kindDueAt_5 : decode cX0_kindDueAt 5 = .ok (.goto 4, 3) := by decide +kernel
theorem dX0_kindDueAt_8 : decode cX0_kindDueAt 8 = .ok (.iconst 0, 1) := by decide +kernel
theorem dX0_kindDueAt_9 : decode cX0_kindDueAt 9 = .ok (.ireturn, 1) := by decide +kernel
theorem dX0_isGone_0 : decode cX0_isGone 0 = .ok (.aload_n 0, 1) := by decide +kernel
theorem dX0_isGone_1 : decode cX0_isGone 1 = .ok (.getfield 29, 3) := by decide +kernel
theorem dX0_isGone_4 : decode cX0_isGone 4 = .ok (.iload_n 1, 1) := by decide +kernel
theorem dX0_isGone_5 : decode cX0_isGone 5 = .ok (.iaload, 1) := by decide +kernel
theorem dX0_isGone_6 : decode cX0_isGone 6 = .ok (.ifCond .ne 7, 3) := by decide +kernel
theorem dX0_isGone_9 : decode cX0_isGone 9 = .ok (.iconst 1, 1) := by decide +kernel
theorem dX0_isGone_10 : decode cX0_isGone 10 = .ok (.goto 4, 3) := by decide +kernel
theorem dX0_isGone_13 : decode cX0_isGone 13 = .ok (.iconst 0, 1) := by decide +kernel
theorem dX0_isGone_14 : decode cX0_isGone 14 = .ok (.ireturn, 1) := by decide +kernel
theorem dX0_appendRope_0 : decode cX0_appendRope 0 = .ok (.iload_n 1, 1) := by decide +kernel
theorem dX0_appendRope_1 : decode cX0_appendRope 1 = .ok (.aload_n 0, 1) := by decide +kernel
theorem dX0_appendRope_2 : decode cX0_appendRope 2 = .ok (.getfield 29, 3) := by decide +kernel
theorem dX0_appendRope_5 : decode cX0_appendRope 5 = .ok (.iload_n 1, 1) := by decide +kernel
theorem dX0_appendRope_6 : decode cX0_appendRope 6 = .ok (.iaload, 1) := by decide +kernel
theorem dX0_appendRope_7 : decode cX0_appendRope 7 = .ok (.invokestatic 97, 3) := by decide +kernel
theorem dX0_appendRope_10 : decode cX0_appendRope 10 = .ok (.istore 4, 2) := by decide +kernel
theorem dX0_appendRope_12 : decode cX0_appendRope 12 = .ok (.aload_n 0, 1) := by decide +kernel
theorem dX0_appendRope_13 : decode cX0_appendRope 13 = .ok (.getfield 35, 3) := by decide +kernel
theorem dX0_appendRope_16 : decode cX0_appendRope 16 = .ok (.iload 4, 2) := by decide +kernel
theorem dX0_appendRope_18 : decode cX0_appendRope 18 = .ok (.iload_n 2, 1) := by decide +kernel
theorem dX0_appendRope_19 : decode cX0_appendRope 19 = .ok (.iastore, 1) := by decide +kernel
theorem dX0_appendRope_20 : decode cX0_appendRope 20 = .ok (.aload_n 0, 1) := by decide +kernel
theorem dX0_appendRope_21 : decode cX0_appendRope 21 = .ok (.getfield 38, 3) := by decide +kernel
theorem dX0_appendRope_24 : decode cX0_appendRope 24 = .ok (.iload 4, 2) := by decide +kernel
theorem dX0_appendRope_26 : decode cX0_appendRope 26 = .ok (.iload_n 3, 1) := by decide +kernel
theorem dX0_appendRope_27 : decode cX0_appendRope 27 = .ok (.iastore, 1) := by decide +kernel
theorem dX0_appendRope_28 : decode cX0_appendRope 28 = .ok (.aload_n 0, 1) := by decide +kernel
theorem dX0_appendRope_29 : decode cX0_appendRope 29 = .ok (.getfield 29, 3) := by decide +kernel
theorem dX0_appendRope_32 : decode cX0_appendRope 32 = .ok (.iload_n 1, 1) := by decide +kernel
theorem dX0_appendRope_33 : decode cX0_appendRope 33 = .ok (.dup2, 1) := by decide +kernel
theorem dX0_appendRope_34 : decode cX0_appendRope 34 = .ok (.iaload, 1) := by decide +kernel
theorem dX0_appendRope_35 : decode cX0_appendRope 35 = .ok (.iconst 1, 1) := by decide +kernel
theorem dX0_appendRope_36 : decode cX0_appendRope 36 = .ok (.iadd, 1) := by decide +kernel
theorem dX0_appendRope_37 : decode cX0_appendRope 37 = .ok (.iastore, 1) := by decide +kernel
theorem dX0_appendRope_38 : decode cX0_appendRope 38 = .ok (.return_, 1) := by decide +kernel
theorem dX0_strengthWith_0 : decode cX0_strengthWith 0 = .ok (.aload_n 0, 1) := by decide +kernel
theorem dX0_strengthWith_1 : decode cX0_strengthWith 1 = .ok (.getfield 38, 3) := by decide +kernel
theorem dX0_strengthWith_4 : decode cX0_strengthWith 4 = .ok (.iload_n 1, 1) := by decide +kernel
theorem dX0_strengthWith_5 : decode cX0_strengthWith 5 = .ok (.iload_n 2, 1) := by decide +kernel
theorem dX0_strengthWith_6 : decode cX0_strengthWith 6 = .ok (.invokestatic 97, 3) := by decide +kernel
theorem dX0_strengthWith_9 : decode cX0_strengthWith 9 = .ok (.iaload, 1) := by decide +kernel
theorem dX0_strengthWith_10 : decode cX0_strengthWith 10 = .ok (.istore 4, 2) := by decide +kernel
theorem dX0_strengthWith_12 : decode cX0_strengthWith 12 = .ok (.iload_n 2, 1) := by decide +kernel
theorem dX0_strengthWith_13 : decode cX0_strengthWith 13 = .ok (.ifCond .le 22, 3) := by decide +kernel
theorem dX0_strengthWith_16 : decode cX0_strengthWith 16 = .ok (.iload 4, 2) := by decide +kernel
theorem dX0_strengthWith_18 : decode cX0_strengthWith 18 = .ok (.aload_n 0, 1) := by decide +kernel
theorem dX0_strengthWith_19 : decode cX0_strengthWith 19 = .ok (.getfield 38, 3) := by decide +kernel
theorem dX0_strengthWith_22 : decode cX0_strengthWith 22 = .ok (.iload_n 1, 1) := by decide +kernel
theorem dX0_strengthWith_23 : decode cX0_strengthWith 23 = .ok (.iload_n 2, 1) := by decide +kernel
theorem dX0_strengthWith_24 : decode cX0_strengthWith 24 = .ok (.iconst 1, 1) := by decide +kernel
theorem dX0_strengthWith_25 : decode cX0_strengthWith 25 = .ok (.isub, 1) := by decide +kernel
theorem dX0_strengthWith_26 : decode cX0_strengthWith 26 = .ok (.invokestatic 97, 3) := by decide +kernel
theorem dX0_strengthWith_29 : decode cX0_strengthWith 29 = .ok (.iaload, 1) := by decide +kernel
theorem dX0_strengthWith_30 : decode cX0_strengthWith 30 = .ok (.invokestatic 220, 3) := by decide +kernel
theorem dX0_strengthWith_33 : decode cX0_strengthWith 33 = .ok (.istore 4, 2) := by decide +kernel
theorem dX0_strengthWith_35 : decode cX0_strengthWith 35 = .ok (.iload 4, 2) := by decide +kernel
theorem dX0_strengthWith_37 : decode cX0_strengthWith 37 = .ok (.aload_n 0, 1) := by decide +kernel
theorem dX0_strengthWith_38 : decode cX0_strengthWith 38 = .ok (.getfield 13, 3) := by decide +kernel
theorem dX0_strengthWith_41 : decode cX0_strengthWith 41 = .ok (.iload_n 3, 1) := by decide +kernel
theorem dX0_strengthWith_42 : decode cX0_strengthWith 42 = .ok (.iaload, 1) := by decide +kernel
theorem dX0_strengthWith_43 : decode cX0_strengthWith 43 = .ok (.imul, 1) := by decide +kernel
theorem dX0_strengthWith_44 : decode cX0_strengthWith 44 = .ok (.bipush 100, 2) := by decide +kernel
theorem dX0_strengthWith_46 : decode cX0_strengthWith 46 = .ok (.idiv, 1) := by decide +kernel
theorem dX0_strengthWith_47 : decode cX0_strengthWith 47 = .ok (.ireturn, 1) := by decide +kernel
theorem dX0_currentStrength_0 : decode cX0_currentStrength 0 = .ok (.aload_n 0, 1) := by decide +kernel
theorem dX0_currentStrength_1 : decode cX0_currentStrength 1 = .ok (.iload_n 1, 1) := by decide +kernel
theorem dX0_currentStrength_2 : decode cX0_currentStrength 2 = .ok (.iload_n 2, 1) := by decide +kernel
theorem dX0_currentStrength_3 : decode cX0_currentStrength 3 = .ok (.aload_n 0, 1) := by decide +kernel
theorem dX0_currentStrength_4 : decode cX0_currentStrength 4 = .ok (.getfield 35, 3) := by decide +kernel
theorem dX0_currentStrength_7 : decode cX0_currentStrength 7 = .ok (.iload_n 1, 1) := by decide +kernel
theorem dX0_currentStrength_8 : decode cX0_currentStrength 8 = .ok (.iload_n 2, 1) := by decide +kernel
theorem dX0_currentStrength_9 : decode cX0_currentStrength 9 = .ok (.invokestatic 97, 3) := by decide +kernel
theorem dX0_currentStrength_12 : decode cX0_currentStrength 12 = .ok (.iaload, 1) := by decide +kernel
theorem dX0_currentStrength_13 : decode cX0_currentStrength 13 = .ok (.invokevirtual 223, 3) := by decide +kernel
theorem dX0_currentStrength_16 : decode cX0_currentStrength 16 = .ok (.ireturn, 1) := by decide +kernel
theorem dX0_placeHolds_0 : decode cX0_placeHolds 0 = .ok (.aload_n 0, 1) := by decide +kernel
theorem dX0_placeHolds_1 : decode cX0_placeHolds 1 = .ok (.aload_n 0, 1) := by decide +kernel
theorem dX0_placeHolds_2 : decode cX0_placeHolds 2 = .ok (.getfield 35, 3) := by decide +kernel
theorem dX0_placeHolds_5 : decode cX0_placeHolds 5 = .ok (.iload_n 1, 1) := by decide +kernel
theorem dX0_placeHolds_6 : decode cX0_placeHolds 6 = .ok (.iload_n 2, 1) := by decide +kernel
theorem dX0_placeHolds_7 : decode cX0_placeHolds 7 = .ok (.invokestatic 97, 3) := by decide +kernel
theorem dX0_placeHolds_10 : decode cX0_placeHolds 10 = .ok (.iaload, 1) := by decide +kernel
theorem dX0_placeHolds_11 : decode cX0_placeHolds 11 = .ok (.iload_n 3, 1) := by decide +kernel
theorem dX0_placeHolds_12 : decode cX0_placeHolds 12 = .ok (.invokevirtual 104, 3) := by decide +kernel
theorem dX0_placeHolds_15 : decode cX0_placeHolds 15 = .ok (.istore 4, 2) := by decide +kernel
theorem dX0_placeHolds_17 : decode cX0_placeHolds 17 = .ok (.aload_n 0, 1) := by decide +kernel
theorem dX0_placeHolds_18 : decode cX0_placeHolds 18 = .ok (.iload 4, 2) := by decide +kernel
theorem dX0_placeHolds_20 : decode cX0_placeHolds 20 = .ok (.invokevirtual 125, 3) := by decide +kernel
theorem dX0_placeHolds_23 : decode cX0_placeHolds 23 = .ok (.ifCond .eq 19, 3) := by decide +kernel
theorem dX0_placeHolds_26 : decode cX0_placeHolds 26 = .ok (.aload_n 0, 1) := by decide +kernel
theorem dX0_placeHolds_27 : decode cX0_placeHolds 27 = .ok (.iload_n 1, 1) := by decide +kernel
theorem dX0_placeHolds_28 : decode cX0_placeHolds 28 = .ok (.iload_n 2, 1) := by decide +kernel
theorem dX0_placeHolds_29 : decode cX0_placeHolds 29 = .ok (.iload 4, 2) := by decide +kernel
theorem dX0_placeHolds_31 : decode cX0_placeHolds 31 = .ok (.invokevirtual 223, 3) := by decide +kernel
theorem dX0_placeHolds_34 : decode cX0_placeHolds 34 = .ok (.iload_n 3, 1) := by decide +kernel
theorem dX0_placeHolds_35 : decode cX0_placeHolds 35 = .ok (.if_icmp .lt 7, 3) := by decide +kernel
theorem dX0_placeHolds_38 : decode cX0_placeHolds 38 = .ok (.iconst 1, 1) := by decide +kernel
theorem dX0_placeHolds_39 : decode cX0_placeHolds 39 = .ok (.goto 4, 3) := by decide +kernel
theorem dX0_placeHolds_42 : decode cX0_placeHolds 42 = .ok (.iconst 0, 1) := by decide +kernel
theorem dX0_placeHolds_43 : decode cX0_placeHolds 43 = .ok (.ireturn, 1) := by decide +kernel
theorem dX0_firstPlaceToGiveWay_0 : decode cX0_firstPlaceToGiveWay 0 = .ok (.iconst 0, 1) := by decide +kernel
theorem dX0_firstPlaceToGiveWay_1 : decode cX0_firstPlaceToGiveWay 1 = .ok (.istore_n 3, 1) := by decide +kernel
theorem dX0_firstPlaceToGiveWay_2 : decode cX0_firstPlaceToGiveWay 2 = .ok (.iload_n 3, 1) := by decide +kernel
theorem dX0_firstPlaceToGiveWay_3 : decode cX0_firstPlaceToGiveWay 3 = .ok (.aload_n 0, 1) := by decide +kernel
theorem dX0_firstPlaceToGiveWay_4 : decode cX0_firstPlaceToGiveWay 4 = .ok (.getfield 29, 3) := by decide +kernel
theorem dX0_firstPlaceToGiveWay_7 : decode cX0_firstPlaceToGiveWay 7 = .ok (.iload_n 1, 1) := by decide +kernel
theorem dX0_firstPlaceToGiveWay_8 : decode cX0_firstPlaceToGiveWay 8 = .ok (.iaload, 1) := by decide +kernel
theorem dX0_firstPlaceToGiveWay_9 : decode cX0_firstPlaceToGiveWay 9 = .ok (.if_icmp .ge 21, 3) := by decide +kernel
theorem dX0_firstPlaceToGiveWay_12 : decode cX0_firstPlaceToGiveWay 12 = .ok (.aload_n 0, 1) := by decide +kernel
theorem dX0_firstPlaceToGiveWay_13 : decode cX0_firstPlaceToGiveWay 13 = .ok (.iload_n 1, 1) := by decide +kernel
theorem dX0_firstPlaceToGiveWay_14 : decode cX0_firstPlaceToGiveWay 14 = .ok (.iload_n 3, 1) := by decide +kernel
theorem dX0_firstPlaceToGiveWay_15 : decode cX0_firstPlaceToGiveWay 15 = .ok (.iload_n 2, 1) := by decide +kernel
theorem dX0_firstPlaceToGiveWay_16 : decode cX0_firstPlaceToGiveWay 16 = .ok (.invokevirtual 226, 3) := by decide +kernel
theorem dX0_firstPlaceToGiveWay_19 : decode cX0_firstPlaceToGiveWay 19 = .ok (.ifCond .ne 5, 3) := by decide +kernel
theorem dX0_firstPlaceToGiveWay_22 : decode cX0_firstPlaceToGiveWay 22 = .ok (.iload_n 3, 1) := by decide +kernel
theorem dX0_firstPlaceToGiveWay_23 : decode cX0_firstPlaceToGiveWay 23 = .ok (.ireturn, 1) := by decide +kernel
theorem dX0_firstPlaceToGiveWay_24 : decode cX0_firstPlaceToGiveWay 24 = .ok (.iinc 3 1, 3) := by decide +kernel
theorem dX0_firstPlaceToGiveWay_27 : decode cX0_firstPlaceToGiveWay 27 = .ok (.goto (-25), 3) := by decide +kernel
theorem dX0_firstPlaceToGiveWay_30 : decode cX0_firstPlaceToGiveWay 30 = .ok (.iconst (-1), 1) := by decide +kernel
theorem dX0_firstPlaceToGiveWay_31 : decode cX0_firstPlaceToGiveWay 31 = .ok (.ireturn, 1) := by decide +kernel
theorem dX0_loadHeldWith_0 : decode cX0_loadHeldWith 0 = .ok (.aload_n 0, 1) := by decide +kernel
theorem dX0_loadHeldWith_1 : decode cX0_loadHeldWith 1 = .ok (.iload_n 1, 1) := by decide +kernel
theorem dX0_loadHeldWith_2 : decode cX0_loadHeldWith 2 = .ok (.invokevirtual 140, 3) := by decide +kernel
theorem dX0_loadHeldWith_5 : decode cX0_loadHeldWith 5 = .ok (.ifCond .eq 5, 3) := by decide +kernel
theorem dX0_loadHeldWith_8 : decode cX0_loadHeldWith 8 = .ok (.iconst 0, 1) := by decide +kernel
theorem dX0_loadHeldWith_9 : decode cX0_loadHeldWith 9 = .ok (.ireturn, 1) := by decide +kernel
theorem dX0_loadHeldWith_10 : decode cX0_loadHeldWith 10 = .ok (.sipush 999, 3) := by decide +kernel
theorem dX0_loadHeldWith_13 : decode cX0_loadHeldWith 13 = .ok (.istore 4, 2) := by decide +kernel
theorem dX0_loadHeldWith_15 : decode cX0_loadHeldWith 15 = .ok (.iconst 0, 1) := by decide +kernel
theorem dX0_loadHeldWith_16 : decode cX0_loadHeldWith 16 = .ok (.istore 5, 2) := by decide +kernel
theorem dX0_loadHeldWith_18 : decode cX0_loadHeldWith 18 = .ok (.iload 5, 2) := by decide +kernel
theorem dX0_loadHeldWith_20 : decode cX0_loadHeldWith 20 = .ok (.aload_n 0, 1) := by decide +kernel
theorem dX0_loadHeldWith_21 : decode cX0_loadHeldWith 21 = .ok (.getfield 29, 3) := by decide +kernel
theorem dX0_loadHeldWith_24 : decode cX0_loadHeldWith 24 = .ok (.iload_n 1, 1) := by decide +kernel
theorem dX0_loadHeldWith_25 : decode cX0_loadHeldWith 25 = .ok (.iaload, 1) := by decide +kernel
theorem dX0_loadHeldWith_26 : decode cX0_loadHeldWith 26 = .ok (.if_icmp .ge 48, 3) := by decide +kernel
theorem dX0_loadHeldWith_29 : decode cX0_loadHeldWith 29 = .ok (.iload 5, 2) := by decide +kernel
theorem dX0_loadHeldWith_31 : decode cX0_loadHeldWith 31 = .ok (.iload_n 2, 1) := by decide +kernel
theorem dX0_loadHeldWith_32 : decode cX0_loadHeldWith 32 = .ok (.if_icmp .ne 7, 3) := by decide +kernel
theorem dX0_loadHeldWith_35 : decode cX0_loadHeldWith 35 = .ok (.iload_n 3, 1) := by decide +kernel
theorem dX0_loadHeldWith_36 : decode cX0_loadHeldWith 36 = .ok (.goto 14, 3) := by decide +kernel
theorem dX0_loadHeldWith_39 : decode cX0_loadHeldWith 39 = .ok (.aload_n 0, 1) := by decide +kernel
theorem dX0_loadHeldWith_40 : decode cX0_loadHeldWith 40 = .ok (.getfield 35, 3) := by decide +kernel
theorem dX0_loadHeldWith_43 : decode cX0_loadHeldWith 43 = .ok (.iload_n 1, 1) := by decide +kernel
theorem dX0_loadHeldWith_44 : decode cX0_loadHeldWith 44 = .ok (.iload 5, 2) := by decide +kernel
theorem dX0_loadHeldWith_46 : decode cX0_loadHeldWith 46 = .ok (.invokestatic 97, 3) := by decide +kernel
theorem dX0_loadHeldWith_49 : decode cX0_loadHeldWith 49 = .ok (.iaload, 1) := by decide +kernel
theorem dX0_loadHeldWith_50 : decode cX0_loadHeldWith 50 = .ok (.istore 6, 2) := by decide +kernel
theorem dX0_loadHeldWith_52 : decode cX0_loadHeldWith 52 = .ok (.iload 4, 2) := by decide +kernel
theorem dX0_loadHeldWith_54 : decode cX0_loadHeldWith 54 = .ok (.aload_n 0, 1) := by decide +kernel
theorem dX0_loadHeldWith_55 : decode cX0_loadHeldWith 55 = .ok (.iload_n 1, 1) := by decide +kernel
theorem dX0_loadHeldWith_56 : decode cX0_loadHeldWith 56 = .ok (.iload 5, 2) := by decide +kernel
theorem dX0_loadHeldWith_58 : decode cX0_loadHeldWith 58 = .ok (.iload 6, 2) := by decide +kernel
theorem dX0_loadHeldWith_60 : decode cX0_loadHeldWith 60 = .ok (.invokevirtual 230, 3) := by decide +kernel
theorem dX0_loadHeldWith_63 : decode cX0_loadHeldWith 63 = .ok (.invokestatic 220, 3) := by decide +kernel
theorem dX0_loadHeldWith_66 : decode cX0_loadHeldWith 66 = .ok (.istore 4, 2) := by decide +kernel
theorem dX0_loadHeldWith_68 : decode cX0_loadHeldWith 68 = .ok (.iinc 5 1, 3) := by decide +kernel
theorem dX0_loadHeldWith_71 : decode cX0_loadHeldWith 71 = .ok (.goto (-53), 3) := by decide +kernel
theorem dX0_loadHeldWith_74 : decode cX0_loadHeldWith 74 = .ok (.iload 4, 2) := by decide +kernel
theorem dX0_loadHeldWith_76 : decode cX0_loadHeldWith 76 = .ok (.ireturn, 1) := by decide +kernel
theorem dX0_loadHeldAt_0 : decode cX0_loadHeldAt 0 = .ok (.iconst 0, 1) := by decide +kernel
theorem dX0_loadHeldAt_1 : decode cX0_loadHeldAt 1 = .ok (.istore 4, 2) := by decide +kernel
theorem dX0_loadHeldAt_3 : decode cX0_loadHeldAt 3 = .ok (.iload_n 3, 1) := by decide +kernel
theorem dX0_loadHeldAt_4 : decode cX0_loadHeldAt 4 = .ok (.istore 5, 2) := by decide +kernel
theorem dX0_loadHeldAt_6 : decode cX0_loadHeldAt 6 = .ok (.iconst 0, 1) := by decide +kernel
theorem dX0_loadHeldAt_7 : decode cX0_loadHeldAt 7 = .ok (.istore 6, 2) := by decide +kernel
theorem dX0_loadHeldAt_9 : decode cX0_loadHeldAt 9 = .ok (.iload 6, 2) := by decide +kernel
theorem dX0_loadHeldAt_11 : decode cX0_loadHeldAt 11 = .ok (.bipush 16, 2) := by decide +kernel
theorem dX0_loadHeldAt_13 : decode cX0_loadHeldAt 13 = .ok (.if_icmp .ge 90, 3) := by decide +kernel
theorem dX0_loadHeldAt_16 : decode cX0_loadHeldAt 16 = .ok (.aload_n 0, 1) := by decide +kernel
theorem dX0_loadHeldAt_17 : decode cX0_loadHeldAt 17 = .ok (.iload 5, 2) := by decide +kernel
theorem dX0_loadHeldAt_19 : decode cX0_loadHeldAt 19 = .ok (.invokevirtual 125, 3) := by decide +kernel
theorem dX0_loadHeldAt_22 : decode cX0_loadHeldAt 22 = .ok (.ifCond .eq 81, 3) := by decide +kernel
theorem dX0_loadHeldAt_25 : decode cX0_loadHeldAt 25 = .ok (.aload_n 0, 1) := by decide +kernel
theorem dX0_loadHeldAt_26 : decode cX0_loadHeldAt 26 = .ok (.getfield 19, 3) := by decide +kernel
theorem dX0_loadHeldAt_29 : decode cX0_loadHeldAt 29 = .ok (.iload 5, 2) := by decide +kernel
theorem dX0_loadHeldAt_31 : decode cX0_loadHeldAt 31 = .ok (.iaload, 1) := by decide +kernel
theorem dX0_loadHeldAt_32 : decode cX0_loadHeldAt 32 = .ok (.ifCond .ne 9, 3) := by decide +kernel
theorem dX0_loadHeldAt_35 : decode cX0_loadHeldAt 35 = .ok (.sipush 999, 3) := by decide +kernel
theorem dX0_loadHeldAt_38 : decode cX0_loadHeldAt 38 = .ok (.goto 12, 3) := by decide +kernel
theorem dX0_loadHeldAt_41 : decode cX0_loadHeldAt 41 = .ok (.aload_n 0, 1) := by decide +kernel
theorem dX0_loadHeldAt_42 : decode cX0_loadHeldAt 42 = .ok (.getfield 19, 3) := by decide +kernel
theorem dX0_loadHeldAt_45 : decode cX0_loadHeldAt 45 = .ok (.iload 5, 2) := by decide +kernel
theorem dX0_loadHeldAt_47 : decode cX0_loadHeldAt 47 = .ok (.iaload, 1) := by decide +kernel
theorem dX0_loadHeldAt_48 : decode cX0_loadHeldAt 48 = .ok (.iconst 1, 1) := by decide +kernel
theorem dX0_loadHeldAt_49 : decode cX0_loadHeldAt 49 = .ok (.isub, 1) := by decide +kernel
theorem dX0_loadHeldAt_50 : decode cX0_loadHeldAt 50 = .ok (.istore 7, 2) := by decide +kernel
theorem dX0_loadHeldAt_52 : decode cX0_loadHeldAt 52 = .ok (.iload 7, 2) := by decide +kernel
theorem dX0_loadHeldAt_54 : decode cX0_loadHeldAt 54 = .ok (.iload 4, 2) := by decide +kernel
theorem dX0_loadHeldAt_56 : decode cX0_loadHeldAt 56 = .ok (.if_icmp .le 32, 3) := by decide +kernel
theorem dX0_loadHeldAt_59 : decode cX0_loadHeldAt 59 = .ok (.aload_n 0, 1) := by decide +kernel
theorem dX0_loadHeldAt_60 : decode cX0_loadHeldAt 60 = .ok (.iload_n 1, 1) := by decide +kernel
theorem dX0_loadHeldAt_61 : decode cX0_loadHeldAt 61 = .ok (.iload_n 2, 1) := by decide +kernel
theorem dX0_loadHeldAt_62 : decode cX0_loadHeldAt 62 = .ok (.iload 5, 2) := by decide +kernel
theorem dX0_loadHeldAt_64 : decode cX0_loadHeldAt 64 = .ok (.invokevirtual 223, 3) := by decide +kernel
theorem dX0_loadHeldAt_67 : decode cX0_loadHeldAt 67 = .ok (.istore 8, 2) := by decide +kernel
theorem dX0_loadHeldAt_69 : decode cX0_loadHeldAt 69 = .ok (.iload 8, 2) := by decide +kernel
theorem dX0_loadHeldAt_71 : decode cX0_loadHeldAt 71 = .ok (.iload 7, 2) := by decide +kernel
theorem dX0_loadHeldAt_73 : decode cX0_loadHeldAt 73 = .ok (.if_icmp .ge 11, 3) := by decide +kernel
theorem dX0_loadHeldAt_76 : decode cX0_loadHeldAt 76 = .ok (.iload 4, 2) := by decide +kernel
theorem dX0_loadHeldAt_78 : decode cX0_loadHeldAt 78 = .ok (.iload 8, 2) := by decide +kernel
theorem dX0_loadHeldAt_80 : decode cX0_loadHeldAt 80 = .ok (.invokestatic 129, 3) := by decide +kernel
theorem dX0_loadHeldAt_83 : decode cX0_loadHeldAt 83 = .ok (.ireturn, 1) := by decide +kernel
theorem dX0_loadHeldAt_84 : decode cX0_loadHeldAt 84 = .ok (.iload 7, 2) := by decide +kernel
theorem dX0_loadHeldAt_86 : decode cX0_loadHeldAt 86 = .ok (.istore 4, 2) := by decide +kernel
theorem dX0_loadHeldAt_88 : decode cX0_loadHeldAt 88 = .ok (.aload_n 0, 1) := by decide +kernel
theorem dX0_loadHeldAt_89 : decode cX0_loadHeldAt 89 = .ok (.getfield 22, 3) := by decide +kernel
theorem dX0_loadHeldAt_92 : decode cX0_loadHeldAt 92 = .ok (.iload 5, 2) := by decide +kernel
theorem dX0_loadHeldAt_94 : decode cX0_loadHeldAt 94 = .ok (.iaload, 1) := by decide +kernel
theorem dX0_loadHeldAt_95 : decode cX0_loadHeldAt 95 = .ok (.istore 5, 2) := by decide +kernel
theorem dX0_loadHeldAt_97 : decode cX0_loadHeldAt 97 = .ok (.iinc 6 1, 3) := by decide +kernel
theorem dX0_loadHeldAt_100 : decode cX0_loadHeldAt 100 = .ok (.goto (-91), 3) := by decide +kernel
theorem dX0_loadHeldAt_103 : decode cX0_loadHeldAt 103 = .ok (.iload 4, 2) := by decide +kernel
theorem dX0_loadHeldAt_105 : decode cX0_loadHeldAt 105 = .ok (.ireturn, 1) := by decide +kernel
end
section
theorem dX1_init_0 : decode cX1_init 0 = .ok (.aload_n 0, 1) := by decide +kernel
theorem dX1_init_1 : decode cX1_init 1 = .ok (.invokespecial 1, 3) := by decide +kernel
theorem dX1_init_4 : decode cX1_init 4 = .ok (.aload_n 0, 1) := by decide +kernel
theorem dX1_init_5 : decode cX1_init 5 = .ok (.iconst 0, 1) := by decide +kernel
theorem dX1_init_6 : decode cX1_init 6 = .ok (.anewarray 7, 3) := by decide +kernel
theorem dX1_init_9 : decode cX1_init 9 = .ok (.putfield 9, 3) := by decide +kernel
theorem dX1_init_12 : decode cX1_init 12 = .ok (.aload_n 0, 1) := by decide +kernel
theorem dX1_init_13 : decode cX1_init 13 = .ok (.iconst 0, 1) := by decide +kernel
theorem dX1_init_14 : decode cX1_init 14 = .ok (.anewarray 7, 3) := by decide +kernel
theorem dX1_init_17 : decode cX1_init 17 = .ok (.putfield 15, 3) := by decide +kernel
theorem dX1_init_20 : decode cX1_init 20 = .ok (.aload_n 0, 1) := by decide +kernel
theorem dX1_init_21 : decode cX1_init 21 = .ok (.iconst 0, 1) := by decide +kernel
theorem dX1_init_22 : decode cX1_init 22 = .ok (.anewarray 7, 3) := by decide +kernel
theorem dX1_init_25 : decode cX1_init 25 = .ok (.putfield 18, 3) := by decide +kernel
theorem dX1_init_28 : decode cX1_init 28 = .ok (.return_, 1) := by decide +kernel
theorem dX1_with_0 : decode cX1_with 0 = .ok (.aload_n 0, 1) := by decide +kernel
theorem dX1_with_1 : decode cX1_with 1 = .ok (.arraylength, 1) := by decide +kernel
theorem dX1_with_2 : decode cX1_with 2 = .ok (.iconst 1, 1) := by decide +kernel
theorem dX1_with_3 : decode cX1_with 3 = .ok (.iadd, 1) := by decide +kernel
theorem dX1_with_4 : decode cX1_with 4 = .ok (.anewarray 7, 3) := by decide +kernel
theorem dX1_with_7 : decode cX1_with 7 = .ok (.astore_n 2, 1) := by decide +kernel
theorem dX1_with_8 : decode cX1_with 8 = .ok (.iconst 0, 1) := by decide +kernel
theorem dX1_with_9 : decode cX1_with 9 = .ok (.istore_n 3, 1) := by decide +kernel
theorem dX1_with_10 : decode cX1_with 10 = .ok (.iload_n 3, 1) := by decide +kernel
theorem dX1_with_11 : decode cX1_with 11 = .ok (.aload_n 0, 1) := by decide +kernel
theorem dX1_with_12 : decode cX1_with 12 = .ok (.arraylength, 1) := by decide +kernel
theorem dX1_with_13 : decode cX1_with 13 = .ok (.if_icmp .ge 15, 3) := by decide +kernel
theorem dX1_with_16 : decode cX1_with 16 = .ok (.aload_n 2, 1) := by decide +kernel
theorem dX1_with_17 : decode cX1_with 17 = .ok (.iload_n 3, 1) := by decide +kernel
theorem dX1_with_18 : decode cX1_with 18 = .ok (.aload_n 0, 1) := by decide +kernel
theorem dX1_with_19 : decode cX1_with 19 = .ok (.iload_n 3, 1) := by decide +kernel
theorem dX1_with_20 : decode cX1_with 20 = .ok (.aaload, 1) := by decide +kernel
theorem dX1_with_21 : decode cX1_with 21 = .ok (.aastore, 1) := by decide +kernel
theorem dX1_with_22 : decode cX1_with 22 = .ok (.iinc 3 1, 3) := by decide +kernel
theorem dX1_with_25 : decode cX1_with 25 = .ok (.goto (-15), 3) := by decide +kernel
theorem dX1_with_28 : decode cX1_with 28 = .ok (.aload_n 2, 1) := by decide +kernel
theorem dX1_with_29 : decode cX1_with 29 = .ok (.aload_n 0, 1) := by decide +kernel
theorem dX1_with_30 : decode cX1_with 30 = .ok (.arraylength, 1) := by decide +kernel
theorem dX1_with_31 : decode cX1_with 31 = .ok (.aload_n 1, 1) := by decide +kernel
theorem dX1_with_32 : decode cX1_with 32 = .ok (.aastore, 1) := by decide +kernel
theorem dX1_with_33 : decode cX1_with 33 = .ok (.aload_n 2, 1) := by decide +kernel
theorem dX1_with_34 : decode cX1_with 34 = .ok (.areturn, 1) := by decide +kernel
theorem dX1_first_0 : decode cX1_first 0 = .ok (.iload_n 1, 1) := by decide +kernel
theorem dX1_first_1 : decode cX1_first 1 = .ok (.newarray .int, 2) := by decide +kernel
theorem dX1_first_3 : decode cX1_first 3 = .ok (.astore_n 2, 1) := by decide +kernel
theorem dX1_first_4 : decode cX1_first 4 = .ok (.iconst 0, 1) := by decide +kernel
theorem dX1_first_5 : decode cX1_first 5 = .ok (.istore_n 3, 1) := by decide +kernel
theorem dX1_first_6 : decode cX1_first 6 = .ok (.iload_n 3, 1) := by decide +kernel
theorem dX1_first_7 : decode cX1_first 7 = .ok (.iload_n 1, 1) := by decide +kernel
theorem dX1_first_8 : decode cX1_first 8 = .ok (.if_icmp .ge 21, 3) := by decide +kernel
theorem dX1_first_11 : decode cX1_first 11 = .ok (.iload_n 3, 1) := by decide +kernel
theorem dX1_first_12 : decode cX1_first 12 = .ok (.aload_n 0, 1) := by decide +kernel
theorem dX1_first_13 : decode cX1_first 13 = .ok (.arraylength, 1) := by decide +kernel
theorem dX1_first_14 : decode cX1_first 14 = .ok (.if_icmp .ge 15, 3) := by decide +kernel
theorem dX1_first_17 : decode cX1_first 17 = .ok (.aload_n 2, 1) := by decide +kernel
theorem dX1_first_18 : decode cX1_first 18 = .ok (.iload_n 3, 1) := by decide +kernel
theorem dX1_first_19 : decode cX1_first 19 = .ok (.aload_n 0, 1) := by decide +kernel
theorem dX1_first_20 : decode cX1_first 20 = .ok (.iload_n 3, 1) := by decide +kernel
theorem dX1_first_21 : decode cX1_first 21 = .ok (.iaload, 1) := by decide +kernel
theorem dX1_first_22 : decode cX1_first 22 = .ok (.iastore, 1) := by decide +kernel
theorem dX1_first_23 : decode cX1_first 23 = .ok (.iinc 3 1, 3) := by decide +kernel
theorem dX1_first_26 : decode cX1_first 26 = .ok (.goto (-20), 3) := by decide +kernel
theorem dX1_first_29 : decode cX1_first 29 = .ok (.aload_n 2, 1) := by decide +kernel
theorem dX1_first_30 : decode cX1_first 30 = .ok (.areturn, 1) := by decide +kernel
theorem dX1_form_0 : decode cX1_form 0 = .ok (.iload_n 1, 1) := by decide +kernel
theorem dX1_form_1 : decode cX1_form 1 = .ok (.istore_n 3, 1) := by decide +kernel
theorem dX1_form_2 : decode cX1_form 2 = .ok (.iconst 0, 1) := by decide +kernel
theorem dX1_form_3 : decode cX1_form 3 = .ok (.istore 4, 2) := by decide +kernel
theorem dX1_form_5 : decode cX1_form 5 = .ok (.iload_n 3, 1) := by decide +kernel
theorem dX1_form_6 : decode cX1_form 6 = .ok (.ifCond .lt 41, 3) := by decide +kernel
theorem dX1_form_9 : decode cX1_form 9 = .ok (.aload_n 0, 1) := by decide +kernel
theorem dX1_form_10 : decode cX1_form 10 = .ok (.getfield 9, 3) := by decide +kernel
theorem dX1_form_13 : decode cX1_form 13 = .ok (.iload_n 3, 1) := by decide +kernel
theorem dX1_form_14 : decode cX1_form 14 = .ok (.aaload, 1) := by decide +kernel
theorem dX1_form_15 : decode cX1_form 15 = .ok (.iconst 3, 1) := by decide +kernel
theorem dX1_form_16 : decode cX1_form 16 = .ok (.iaload, 1) := by decide +kernel
theorem dX1_form_17 : decode cX1_form 17 = .ok (.ifCond .le 30, 3) := by decide +kernel
theorem dX1_form_20 : decode cX1_form 20 = .ok (.aload_n 0, 1) := by decide +kernel
theorem dX1_form_21 : decode cX1_form 21 = .ok (.getfield 9, 3) := by decide +kernel
theorem dX1_form_24 : decode cX1_form 24 = .ok (.iload_n 3, 1) := by decide +kernel
theorem dX1_form_25 : decode cX1_form 25 = .ok (.aaload, 1) := by decide +kernel
theorem dX1_form_26 : decode cX1_form 26 = .ok (.iconst 3, 1) := by decide +kernel
theorem dX1_form_27 : decode cX1_form 27 = .ok (.iaload, 1) := by decide +kernel
theorem dX1_form_28 : decode cX1_form 28 = .ok (.iload_n 2, 1) := by decide +kernel
theorem dX1_form_29 : decode cX1_form 29 = .ok (.if_icmp .gt 18, 3) := by decide +kernel
theorem dX1_form_32 : decode cX1_form 32 = .ok (.aload_n 0, 1) := by decide +kernel
theorem dX1_form_33 : decode cX1_form 33 = .ok (.getfield 9, 3) := by decide +kernel
theorem dX1_form_36 : decode cX1_form 36 = .ok (.iload_n 3, 1) := by decide +kernel
theorem dX1_form_37 : decode cX1_form 37 = .ok (.aaload, 1) := by decide +kernel
theorem dX1_form_38 : decode cX1_form 38 = .ok (.iconst 4, 1) := by decide +kernel
theorem dX1_form_39 : decode cX1_form 39 = .ok (.iaload, 1) := by decide +kernel
theorem dX1_form_40 : decode cX1_form 40 = .ok (.istore_n 3, 1) := by decide +kernel
theorem dX1_form_41 : decode cX1_form 41 = .ok (.iinc 4 1, 3) := by decide +kernel
theorem dX1_form_44 : decode cX1_form 44 = .ok (.goto (-39), 3) := by decide +kernel
theorem dX1_form_47 : decode cX1_form 47 = .ok (.iconst 2, 1) := by decide +kernel
theorem dX1_form_48 : decode cX1_form 48 = .ok (.newarray .int, 2) := by decide +kernel
theorem dX1_form_50 : decode cX1_form 50 = .ok (.dup, 1) := by decide +kernel
theorem dX1_form_51 : decode cX1_form 51 = .ok (.iconst 0, 1) := by decide +kernel
theorem dX1_form_52 : decode cX1_form 52 = .ok (.iload_n 3, 1) := by decide +kernel
theorem dX1_form_53 : decode cX1_form 53 = .ok (.iastore, 1) := by decide +kernel
theorem dX1_form_54 : decode cX1_form 54 = .ok (.dup, 1) := by decide +kernel
theorem dX1_form_55 : decode cX1_form 55 = .ok (.iconst 1, 1) := by decide +kernel
theorem dX1_form_56 : decode cX1_form 56 = .ok (.iload 4, 2) := by decide +kernel
theorem dX1_form_58 : decode cX1_form 58 = .ok (.iastore, 1) := by decide +kernel
theorem dX1_form_59 : decode cX1_form 59 = .ok (.areturn, 1) := by decide +kernel
theorem dX1_worth_0 : decode cX1_worth 0 = .ok (.sipush 1000, 3) := by decide +kernel
theorem dX1_worth_3 : decode cX1_worth 3 = .ok (.aload_n 0, 1) := by decide +kernel
theorem dX1_worth_4 : decode cX1_worth 4 = .ok (.getfield 9, 3) := by decide +kernel
theorem dX1_worth_7 : decode cX1_worth 7 = .ok (.iload_n 1, 1) := by decide +kernel
theorem dX1_worth_8 : decode cX1_worth 8 = .ok (.aaload, 1) := by decide +kernel
theorem dX1_worth_9 : decode cX1_worth 9 = .ok (.iconst 1, 1) := by decide +kernel
theorem dX1_worth_10 : decode cX1_worth 10 = .ok (.iaload, 1) := by decide +kernel
theorem dX1_worth_11 : decode cX1_worth 11 = .ok (.imul, 1) := by decide +kernel
theorem dX1_worth_12 : decode cX1_worth 12 = .ok (.bipush 20, 2) := by decide +kernel
theorem dX1_worth_14 : decode cX1_worth 14 = .ok (.aload_n 0, 1) := by decide +kernel
theorem dX1_worth_15 : decode cX1_worth 15 = .ok (.getfield 9, 3) := by decide +kernel
theorem dX1_worth_18 : decode cX1_worth 18 = .ok (.iload_n 1, 1) := by decide +kernel
theorem dX1_worth_19 : decode cX1_worth 19 = .ok (.aaload, 1) := by decide +kernel
theorem dX1_worth_20 : decode cX1_worth 20 = .ok (.iconst 2, 1) := by decide +kernel
theorem dX1_worth_21 : decode cX1_worth 21 = .ok (.iaload, 1) := by decide +kernel
theorem dX1_worth_22 : decode cX1_worth 22 = .ok (.imul, 1) := by decide +kernel
theorem dX1_worth_23 : decode cX1_worth 23 = .ok (.isub, 1) := by decide +kernel
theorem dX1_worth_24 : decode cX1_worth 24 = .ok (.iload_n 1, 1) := by decide +kernel
theorem dX1_worth_25 : decode cX1_worth 25 = .ok (.isub, 1) := by decide +kernel
theorem dX1_worth_26 : decode cX1_worth 26 = .ok (.ireturn, 1) := by decide +kernel
theorem dX1_rank_0 : decode cX1_rank 0 = .ok (.iconst 0, 1) := by decide +kernel
theorem dX1_rank_1 : decode cX1_rank 1 = .ok (.istore_n 2, 1) := by decide +kernel
theorem dX1_rank_2 : decode cX1_rank 2 = .ok (.iconst 0, 1) := by decide +kernel
theorem dX1_rank_3 : decode cX1_rank 3 = .ok (.istore_n 3, 1) := by decide +kernel
theorem dX1_rank_4 : decode cX1_rank 4 = .ok (.iload_n 3, 1) := by decide +kernel
theorem dX1_rank_5 : decode cX1_rank 5 = .ok (.aload_n 0, 1) := by decide +kernel
theorem dX1_rank_6 : decode cX1_rank 6 = .ok (.getfield 9, 3) := by decide +kernel
theorem dX1_rank_9 : decode cX1_rank 9 = .ok (.arraylength, 1) := by decide +kernel
theorem dX1_rank_10 : decode cX1_rank 10 = .ok (.if_icmp .ge 49, 3) := by decide +kernel
theorem dX1_rank_13 : decode cX1_rank 13 = .ok (.iload_n 2, 1) := by decide +kernel
theorem dX1_rank_14 : decode cX1_rank 14 = .ok (.aload_n 0, 1) := by decide +kernel
theorem dX1_rank_15 : decode cX1_rank 15 = .ok (.getfield 9, 3) := by decide +kernel
theorem dX1_rank_18 : decode cX1_rank 18 = .ok (.iload_n 3, 1) := by decide +kernel
theorem dX1_rank_19 : decode cX1_rank 19 = .ok (.aaload, 1) := by decide +kernel
theorem dX1_rank_20 : decode cX1_rank 20 = .ok (.iconst 0, 1) := by decide +kernel
theorem dX1_rank_21 : decode cX1_rank 21 = .ok (.iaload, 1) := by decide +kernel
theorem dX1_rank_22 : decode cX1_rank 22 = .ok (.aload_n 0, 1) := by decide +kernel
theorem dX1_rank_23 : decode cX1_rank 23 = .ok (.getfield 9, 3) := by decide +kernel
theorem dX1_rank_26 : decode cX1_rank 26 = .ok (.iload_n 1, 1) := by decide +kernel
theorem dX1_rank_27 : decode cX1_rank 27 = .ok (.aaload, 1) := by decide +kernel
theorem dX1_rank_28 : decode cX1_rank 28 = .ok (.iconst 0, 1) := by decide +kernel
theorem dX1_rank_29 : decode cX1_rank 29 = .ok (.iaload, 1) := by decide +kernel
theorem dX1_rank_30 : decode cX1_rank 30 = .ok (.if_icmp .ne 20, 3) := by decide +kernel
theorem dX1_rank_33 : decode cX1_rank 33 = .ok (.aload_n 0, 1) := by decide +kernel
theorem dX1_rank_34 : decode cX1_rank 34 = .ok (.iload_n 3, 1) := by decide +kernel
theorem dX1_rank_35 : decode cX1_rank 35 = .ok (.invokevirtual 21, 3) := by decide +kernel
theorem dX1_rank_38 : decode cX1_rank 38 = .ok (.aload_n 0, 1) := by decide +kernel
theorem dX1_rank_39 : decode cX1_rank 39 = .ok (.iload_n 1, 1) := by decide +kernel
theorem dX1_rank_40 : decode cX1_rank 40 = .ok (.invokevirtual 21, 3) := by decide +kernel
theorem dX1_rank_43 : decode cX1_rank 43 = .ok (.if_icmp .le 7, 3) := by decide +kernel
theorem dX1_rank_46 : decode cX1_rank 46 = .ok (.iconst 1, 1) := by decide +kernel
theorem dX1_rank_47 : decode cX1_rank 47 = .ok (.goto 4, 3) := by decide +kernel
theorem dX1_rank_50 : decode cX1_rank 50 = .ok (.iconst 0, 1) := by decide +kernel
theorem dX1_rank_51 : decode cX1_rank 51 = .ok (.iadd, 1) := by decide +kernel
theorem dX1_rank_52 : decode cX1_rank 52 = .ok (.istore_n 2, 1) := by decide +kernel
theorem dX1_rank_53 : decode cX1_rank 53 = .ok (.iinc 3 1, 3) := by decide +kernel
theorem dX1_rank_56 : decode cX1_rank 56 = .ok (.goto (-52), 3) := by decide +kernel
theorem dX1_rank_59 : decode cX1_rank 59 = .ok (.iload_n 2, 1) := by decide +kernel
theorem dX1_rank_60 : decode cX1_rank 60 = .ok (.ireturn, 1) := by decide +kernel
theorem dX1_strength_0 : decode cX1_strength 0 = .ok (.iload_n 2, 1) := by decide +kernel
theorem dX1_strength_1 : decode cX1_strength 1 = .ok (.ifCond .le 37, 3) := by decide +kernel
theorem dX1_strength_4 : decode cX1_strength 4 = .ok (.aload_n 0, 1) := by decide +kernel
theorem dX1_strength_5 : decode cX1_strength 5 = .ok (.getfield 15, 3) := by decide +kernel
theorem dX1_strength_8 : decode cX1_strength 8 = .ok (.iload_n 1, 1) := by decide +kernel
theorem dX1_strength_9 : decode cX1_strength 9 = .ok (.aaload, 1) := by decide +kernel
theorem dX1_strength_10 : decode cX1_strength 10 = .ok (.iload_n 2, 1) := by decide +kernel
theorem dX1_strength_11 : decode cX1_strength 11 = .ok (.iconst 1, 1) := by decide +kernel
theorem dX1_strength_12 : decode cX1_strength 12 = .ok (.isub, 1) := by decide +kernel
theorem dX1_strength_13 : decode cX1_strength 13 = .ok (.iaload, 1) := by decide +kernel
theorem dX1_strength_14 : decode cX1_strength 14 = .ok (.aload_n 0, 1) := by decide +kernel
theorem dX1_strength_15 : decode cX1_strength 15 = .ok (.getfield 15, 3) := by decide +kernel
theorem dX1_strength_18 : decode cX1_strength 18 = .ok (.iload_n 1, 1) := by decide +kernel
theorem dX1_strength_19 : decode cX1_strength 19 = .ok (.aaload, 1) := by decide +kernel
theorem dX1_strength_20 : decode cX1_strength 20 = .ok (.iload_n 2, 1) := by decide +kernel
theorem dX1_strength_21 : decode cX1_strength 21 = .ok (.iaload, 1) := by decide +kernel
theorem dX1_strength_22 : decode cX1_strength 22 = .ok (.if_icmp .ge 16, 3) := by decide +kernel
theorem dX1_strength_25 : decode cX1_strength 25 = .ok (.aload_n 0, 1) := by decide +kernel
theorem dX1_strength_26 : decode cX1_strength 26 = .ok (.getfield 15, 3) := by decide +kernel
theorem dX1_strength_29 : decode cX1_strength 29 = .ok (.iload_n 1, 1) := by decide +kernel
theorem dX1_strength_30 : decode cX1_strength 30 = .ok (.aaload, 1) := by decide +kernel
theorem dX1_strength_31 : decode cX1_strength 31 = .ok (.iload_n 2, 1) := by decide +kernel
theorem dX1_strength_32 : decode cX1_strength 32 = .ok (.iconst 1, 1) := by decide +kernel
theorem dX1_strength_33 : decode cX1_strength 33 = .ok (.isub, 1) := by decide +kernel
theorem dX1_strength_34 : decode cX1_strength 34 = .ok (.iaload, 1) := by decide +kernel
theorem dX1_strength_35 : decode cX1_strength 35 = .ok (.goto 11, 3) := by decide +kernel
theorem dX1_strength_38 : decode cX1_strength 38 = .ok (.aload_n 0, 1) := by decide +kernel
theorem dX1_strength_39 : decode cX1_strength 39 = .ok (.getfield 15, 3) := by decide +kernel
theorem dX1_strength_42 : decode cX1_strength 42 = .ok (.iload_n 1, 1) := by decide +kernel
theorem dX1_strength_43 : decode cX1_strength 43 = .ok (.aaload, 1) := by decide +kernel
theorem dX1_strength_44 : decode cX1_strength 44 = .ok (.iload_n 2, 1) := by decide +kernel
theorem dX1_strength_45 : decode cX1_strength 45 = .ok (.iaload, 1) := by decide +kernel
theorem dX1_strength_46 : decode cX1_strength 46 = .ok (.istore 4, 2) := by decide +kernel
theorem dX1_strength_48 : decode cX1_strength 48 = .ok (.iload 4, 2) := by decide +kernel
theorem dX1_strength_50 : decode cX1_strength 50 = .ok (.aload_n 0, 1) := by decide +kernel
theorem dX1_strength_51 : decode cX1_strength 51 = .ok (.getfield 9, 3) := by decide +kernel
theorem dX1_strength_54 : decode cX1_strength 54 = .ok (.iload_n 3, 1) := by decide +kernel
theorem dX1_strength_55 : decode cX1_strength 55 = .ok (.aaload, 1) := by decide +kernel
theorem dX1_strength_56 : decode cX1_strength 56 = .ok (.iconst 1, 1) := by decide +kernel
theorem dX1_strength_57 : decode cX1_strength 57 = .ok (.iaload, 1) := by decide +kernel
theorem dX1_strength_58 : decode cX1_strength 58 = .ok (.imul, 1) := by decide +kernel
theorem dX1_strength_59 : decode cX1_strength 59 = .ok (.bipush 100, 2) := by decide +kernel
theorem dX1_strength_61 : decode cX1_strength 61 = .ok (.idiv, 1) := by decide +kernel
theorem dX1_strength_62 : decode cX1_strength 62 = .ok (.ireturn, 1) := by decide +kernel
theorem dX1_gives_0 : decode cX1_gives 0 = .ok (.iconst 0, 1) := by decide +kernel
theorem dX1_gives_1 : decode cX1_gives 1 = .ok (.istore_n 3, 1) := by decide +kernel
theorem dX1_gives_2 : decode cX1_gives 2 = .ok (.iload_n 3, 1) := by decide +kernel
theorem dX1_gives_3 : decode cX1_gives 3 = .ok (.aload_n 0, 1) := by decide +kernel
theorem dX1_gives_4 : decode cX1_gives 4 = .ok (.getfield 15, 3) := by decide +kernel
theorem dX1_gives_7 : decode cX1_gives 7 = .ok (.iload_n 1, 1) := by decide +kernel
theorem dX1_gives_8 : decode cX1_gives 8 = .ok (.aaload, 1) := by decide +kernel
theorem dX1_gives_9 : decode cX1_gives 9 = .ok (.arraylength, 1) := by decide +kernel
theorem dX1_gives_10 : decode cX1_gives 10 = .ok (.if_icmp .ge 45, 3) := by decide +kernel
theorem dX1_gives_13 : decode cX1_gives 13 = .ok (.aload_n 0, 1) := by decide +kernel
theorem dX1_gives_14 : decode cX1_gives 14 = .ok (.aload_n 0, 1) := by decide +kernel
theorem dX1_gives_15 : decode cX1_gives 15 = .ok (.getfield 18, 3) := by decide +kernel
theorem dX1_gives_18 : decode cX1_gives 18 = .ok (.iload_n 1, 1) := by decide +kernel
theorem dX1_gives_19 : decode cX1_gives 19 = .ok (.aaload, 1) := by decide +kernel
theorem dX1_gives_20 : decode cX1_gives 20 = .ok (.iload_n 3, 1) := by decide +kernel
theorem dX1_gives_21 : decode cX1_gives 21 = .ok (.iaload, 1) := by decide +kernel
theorem dX1_gives_22 : decode cX1_gives 22 = .ok (.iload_n 2, 1) := by decide +kernel
theorem dX1_gives_23 : decode cX1_gives 23 = .ok (.invokevirtual 25, 3) := by decide +kernel
theorem dX1_gives_26 : decode cX1_gives 26 = .ok (.iconst 0, 1) := by decide +kernel
theorem dX1_gives_27 : decode cX1_gives 27 = .ok (.iaload, 1) := by decide +kernel
theorem dX1_gives_28 : decode cX1_gives 28 = .ok (.istore 4, 2) := by decide +kernel
theorem dX1_gives_30 : decode cX1_gives 30 = .ok (.iload 4, 2) := by decide +kernel
theorem dX1_gives_32 : decode cX1_gives 32 = .ok (.ifCond .lt 15, 3) := by decide +kernel
theorem dX1_gives_35 : decode cX1_gives 35 = .ok (.aload_n 0, 1) := by decide +kernel
theorem dX1_gives_36 : decode cX1_gives 36 = .ok (.iload_n 1, 1) := by decide +kernel
theorem dX1_gives_37 : decode cX1_gives 37 = .ok (.iload_n 3, 1) := by decide +kernel
theorem dX1_gives_38 : decode cX1_gives 38 = .ok (.iload 4, 2) := by decide +kernel
theorem dX1_gives_40 : decode cX1_gives 40 = .ok (.invokevirtual 29, 3) := by decide +kernel
theorem dX1_gives_43 : decode cX1_gives 43 = .ok (.iload_n 2, 1) := by decide +kernel
theorem dX1_gives_44 : decode cX1_gives 44 = .ok (.if_icmp .ge 5, 3) := by decide +kernel
theorem dX1_gives_47 : decode cX1_gives 47 = .ok (.iload_n 3, 1) := by decide +kernel
theorem dX1_gives_48 : decode cX1_gives 48 = .ok (.ireturn, 1) := by decide +kernel
theorem dX1_gives_49 : decode cX1_gives 49 = .ok (.iinc 3 1, 3) := by decide +kernel
theorem dX1_gives_52 : decode cX1_gives 52 = .ok (.goto (-50), 3) := by decide +kernel
theorem dX1_gives_55 : decode cX1_gives 55 = .ok (.iconst (-1), 1) := by decide +kernel
theorem dX1_gives_56 : decode cX1_gives 56 = .ok (.ireturn, 1) := by decide +kernel
theorem dX1_pull_0 : decode cX1_pull 0 = .ok (.aload_n 0, 1) := by decide +kernel
theorem dX1_pull_1 : decode cX1_pull 1 = .ok (.iload_n 1, 1) := by decide +kernel
theorem dX1_pull_2 : decode cX1_pull 2 = .ok (.iload_n 2, 1) := by decide +kernel
theorem dX1_pull_3 : decode cX1_pull 3 = .ok (.invokevirtual 33, 3) := by decide +kernel
theorem dX1_pull_6 : decode cX1_pull 6 = .ok (.istore_n 3, 1) := by decide +kernel
theorem dX1_pull_7 : decode cX1_pull 7 = .ok (.iload_n 3, 1) := by decide +kernel
theorem dX1_pull_8 : decode cX1_pull 8 = .ok (.ifCond .lt 35, 3) := by decide +kernel
theorem dX1_pull_11 : decode cX1_pull 11 = .ok (.aload_n 0, 1) := by decide +kernel
theorem dX1_pull_12 : decode cX1_pull 12 = .ok (.getfield 15, 3) := by decide +kernel
theorem dX1_pull_15 : decode cX1_pull 15 = .ok (.iload_n 1, 1) := by decide +kernel
theorem dX1_pull_16 : decode cX1_pull 16 = .ok (.aload_n 0, 1) := by decide +kernel
theorem dX1_pull_17 : decode cX1_pull 17 = .ok (.getfield 15, 3) := by decide +kernel
theorem dX1_pull_20 : decode cX1_pull 20 = .ok (.iload_n 1, 1) := by decide +kernel
theorem dX1_pull_21 : decode cX1_pull 21 = .ok (.aaload, 1) := by decide +kernel
theorem dX1_pull_22 : decode cX1_pull 22 = .ok (.iload_n 3, 1) := by decide +kernel
theorem dX1_pull_23 : decode cX1_pull 23 = .ok (.invokestatic 37, 3) := by decide +kernel
theorem dX1_pull_26 : decode cX1_pull 26 = .ok (.aastore, 1) := by decide +kernel
theorem dX1_pull_27 : decode cX1_pull 27 = .ok (.aload_n 0, 1) := by decide +kernel
theorem dX1_pull_28 : decode cX1_pull 28 = .ok (.getfield 18, 3) := by decide +kernel
theorem dX1_pull_31 : decode cX1_pull 31 = .ok (.iload_n 1, 1) := by decide +kernel
theorem dX1_pull_32 : decode cX1_pull 32 = .ok (.aload_n 0, 1) := by decide +kernel
theorem dX1_pull_33 : decode cX1_pull 33 = .ok (.getfield 18, 3) := by decide +kernel
theorem dX1_pull_36 : decode cX1_pull 36 = .ok (.iload_n 1, 1) := by decide +kernel
theorem dX1_pull_37 : decode cX1_pull 37 = .ok (.aaload, 1) := by decide +kernel
theorem dX1_pull_38 : decode cX1_pull 38 = .ok (.iload_n 3, 1) := by decide +kernel
theorem dX1_pull_39 : decode cX1_pull 39 = .ok (.invokestatic 37, 3) := by decide +kernel
theorem dX1_pull_42 : decode cX1_pull 42 = .ok (.aastore, 1) := by decide +kernel
theorem dX1_pull_43 : decode cX1_pull 43 = .ok (.iconst 0, 1) := by decide +kernel
theorem dX1_pull_44 : decode cX1_pull 44 = .ok (.istore 4, 2) := by decide +kernel
theorem dX1_pull_46 : decode cX1_pull 46 = .ok (.iload 4, 2) := by decide +kernel
theorem dX1_pull_48 : decode cX1_pull 48 = .ok (.aload_n 0, 1) := by decide +kernel
theorem dX1_pull_49 : decode cX1_pull 49 = .ok (.getfield 18, 3) := by decide +kernel
theorem dX1_pull_52 : decode cX1_pull 52 = .ok (.iload_n 1, 1) := by decide +kernel
theorem dX1_pull_53 : decode cX1_pull 53 = .ok (.aaload, 1) := by decide +kernel
theorem dX1_pull_54 : decode cX1_pull 54 = .ok (.arraylength, 1) := by decide +kernel
theorem dX1_pull_55 : decode cX1_pull 55 = .ok (.if_icmp .ge 34, 3) := by decide +kernel
theorem dX1_pull_58 : decode cX1_pull 58 = .ok (.aload_n 0, 1) := by decide +kernel
theorem dX1_pull_59 : decode cX1_pull 59 = .ok (.getfield 18, 3) := by decide +kernel
theorem dX1_pull_62 : decode cX1_pull 62 = .ok (.iload_n 1, 1) := by decide +kernel
theorem dX1_pull_63 : decode cX1_pull 63 = .ok (.aaload, 1) := by decide +kernel
theorem dX1_pull_64 : decode cX1_pull 64 = .ok (.iload 4, 2) := by decide +kernel
theorem dX1_pull_66 : decode cX1_pull 66 = .ok (.aload_n 0, 1) := by decide +kernel
theorem dX1_pull_67 : decode cX1_pull 67 = .ok (.aload_n 0, 1) := by decide +kernel
theorem dX1_pull_68 : decode cX1_pull 68 = .ok (.getfield 18, 3) := by decide +kernel
theorem dX1_pull_71 : decode cX1_pull 71 = .ok (.iload_n 1, 1) := by decide +kernel
theorem dX1_pull_72 : decode cX1_pull 72 = .ok (.aaload, 1) := by decide +kernel
theorem dX1_pull_73 : decode cX1_pull 73 = .ok (.iload 4, 2) := by decide +kernel
theorem dX1_pull_75 : decode cX1_pull 75 = .ok (.iaload, 1) := by decide +kernel
theorem dX1_pull_76 : decode cX1_pull 76 = .ok (.iload_n 2, 1) := by decide +kernel
theorem dX1_pull_77 : decode cX1_pull 77 = .ok (.invokevirtual 25, 3) := by decide +kernel
theorem dX1_pull_80 : decode cX1_pull 80 = .ok (.iconst 0, 1) := by decide +kernel
theorem dX1_pull_81 : decode cX1_pull 81 = .ok (.iaload, 1) := by decide +kernel
theorem dX1_pull_82 : decode cX1_pull 82 = .ok (.iastore, 1) := by decide +kernel
theorem dX1_pull_83 : decode cX1_pull 83 = .ok (.iinc 4 1, 3) := by decide +kernel
theorem dX1_pull_86 : decode cX1_pull 86 = .ok (.goto (-40), 3) := by decide +kernel
theorem dX1_pull_89 : decode cX1_pull 89 = .ok (.return_, 1) := by decide +kernel
theorem dX1_weakest_0 : decode cX1_weakest 0 = .ok (.iconst (-1), 1) := by decide +kernel
theorem dX1_weakest_1 : decode cX1_weakest 1 = .ok (.istore_n 2, 1) := by decide +kernel
theorem dX1_weakest_2 : decode cX1_weakest 2 = .ok (.aload_n 0, 1) := by decide +kernel
theorem dX1_weakest_3 : decode cX1_weakest 3 = .ok (.getfield 18, 3) := by decide +kernel
theorem dX1_weakest_6 : decode cX1_weakest 6 = .ok (.iload_n 1, 1) := by decide +kernel
theorem dX1_weakest_7 : decode cX1_weakest 7 = .ok (.aaload, 1) := by decide +kernel
theorem dX1_weakest_8 : decode cX1_weakest 8 = .ok (.arraylength, 1) := by decide +kernel
theorem dX1_weakest_9 : decode cX1_weakest 9 = .ok (.iconst 1, 1) := by decide +kernel
theorem dX1_weakest_10 : decode cX1_weakest 10 = .ok (.isub, 1) := by decide +kernel
theorem dX1_weakest_11 : decode cX1_weakest 11 = .ok (.istore_n 3, 1) := by decide +kernel
theorem dX1_weakest_12 : decode cX1_weakest 12 = .ok (.iload_n 3, 1) := by decide +kernel
theorem dX1_weakest_13 : decode cX1_weakest 13 = .ok (.ifCond .lt 46, 3) := by decide +kernel
theorem dX1_weakest_16 : decode cX1_weakest 16 = .ok (.iload_n 2, 1) := by decide +kernel
theorem dX1_weakest_17 : decode cX1_weakest 17 = .ok (.ifCond .lt 34, 3) := by decide +kernel
theorem dX1_weakest_20 : decode cX1_weakest 20 = .ok (.aload_n 0, 1) := by decide +kernel
theorem dX1_weakest_21 : decode cX1_weakest 21 = .ok (.iload_n 1, 1) := by decide +kernel
theorem dX1_weakest_22 : decode cX1_weakest 22 = .ok (.iload_n 3, 1) := by decide +kernel
theorem dX1_weakest_23 : decode cX1_weakest 23 = .ok (.aload_n 0, 1) := by decide +kernel
theorem dX1_weakest_24 : decode cX1_weakest 24 = .ok (.getfield 18, 3) := by decide +kernel
theorem dX1_weakest_27 : decode cX1_weakest 27 = .ok (.iload_n 1, 1) := by decide +kernel
theorem dX1_weakest_28 : decode cX1_weakest 28 = .ok (.aaload, 1) := by decide +kernel
theorem dX1_weakest_29 : decode cX1_weakest 29 = .ok (.iload_n 3, 1) := by decide +kernel
theorem dX1_weakest_30 : decode cX1_weakest 30 = .ok (.iaload, 1) := by decide +kernel
theorem dX1_weakest_31 : decode cX1_weakest 31 = .ok (.invokevirtual 29, 3) := by decide +kernel
theorem dX1_weakest_34 : decode cX1_weakest 34 = .ok (.aload_n 0, 1) := by decide +kernel
theorem dX1_weakest_35 : decode cX1_weakest 35 = .ok (.iload_n 1, 1) := by decide +kernel
theorem dX1_weakest_36 : decode cX1_weakest 36 = .ok (.iload_n 2, 1) := by decide +kernel
theorem dX1_weakest_37 : decode cX1_weakest 37 = .ok (.aload_n 0, 1) := by decide +kernel
theorem dX1_weakest_38 : decode cX1_weakest 38 = .ok (.getfield 18, 3) := by decide +kernel
theorem dX1_weakest_41 : decode cX1_weakest 41 = .ok (.iload_n 1, 1) := by decide +kernel
theorem dX1_weakest_42 : decode cX1_weakest 42 = .ok (.aaload, 1) := by decide +kernel
theorem dX1_weakest_43 : decode cX1_weakest 43 = .ok (.iload_n 2, 1) := by decide +kernel
theorem dX1_weakest_44 : decode cX1_weakest 44 = .ok (.iaload, 1) := by decide +kernel
theorem dX1_weakest_45 : decode cX1_weakest 45 = .ok (.invokevirtual 29, 3) := by decide +kernel
theorem dX1_weakest_48 : decode cX1_weakest 48 = .ok (.if_icmp .gt 5, 3) := by decide +kernel
theorem dX1_weakest_51 : decode cX1_weakest 51 = .ok (.iload_n 3, 1) := by decide +kernel
theorem dX1_weakest_52 : decode cX1_weakest 52 = .ok (.istore_n 2, 1) := by decide +kernel
theorem dX1_weakest_53 : decode cX1_weakest 53 = .ok (.iinc 3 (-1), 3) := by decide +kernel
theorem dX1_weakest_56 : decode cX1_weakest 56 = .ok (.goto (-44), 3) := by decide +kernel
theorem dX1_weakest_59 : decode cX1_weakest 59 = .ok (.iload_n 2, 1) := by decide +kernel
theorem dX1_weakest_60 : decode cX1_weakest 60 = .ok (.ireturn, 1) := by decide +kernel
theorem dX1_isSame_0 : decode cX1_isSame 0 = .ok (.iconst 2, 1) := by decide +kernel
theorem dX1_isSame_1 : decode cX1_isSame 1 = .ok (.newarray .int, 2) := by decide +kernel
theorem dX1_isSame_3 : decode cX1_isSame 3 = .ok (.astore_n 2, 1) := by decide +kernel
theorem dX1_isSame_4 : decode cX1_isSame 4 = .ok (.iconst 0, 1) := by decide +kernel
theorem dX1_isSame_5 : decode cX1_isSame 5 = .ok (.istore_n 3, 1) := by decide +kernel
theorem dX1_isSame_6 : decode cX1_isSame 6 = .ok (.iconst 0, 1) := by decide +kernel
theorem dX1_isSame_7 : decode cX1_isSame 7 = .ok (.istore 4, 2) := by decide +kernel
theorem dX1_isSame_9 : decode cX1_isSame 9 = .ok (.iload 4, 2) := by decide +kernel
theorem dX1_isSame_11 : decode cX1_isSame 11 = .ok (.aload_n 0, 1) := by decide +kernel
theorem dX1_isSame_12 : decode cX1_isSame 12 = .ok (.getfield 9, 3) := by decide +kernel
theorem dX1_isSame_15 : decode cX1_isSame 15 = .ok (.arraylength, 1) := by decide +kernel
theorem dX1_isSame_16 : decode cX1_isSame 16 = .ok (.if_icmp .ge 136, 3) := by decide +kernel
theorem dX1_isSame_19 : decode cX1_isSame 19 = .ok (.aload_n 0, 1) := by decide +kernel
theorem dX1_isSame_20 : decode cX1_isSame 20 = .ok (.getfield 9, 3) := by decide +kernel
theorem dX1_isSame_23 : decode cX1_isSame 23 = .ok (.iload 4, 2) := by decide +kernel
theorem dX1_isSame_25 : decode cX1_isSame 25 = .ok (.aaload, 1) := by decide +kernel
theorem dX1_isSame_26 : decode cX1_isSame 26 = .ok (.astore 5, 2) := by decide +kernel
theorem dX1_isSame_28 : decode cX1_isSame 28 = .ok (.aload_n 2, 1) := by decide +kernel
theorem dX1_isSame_29 : decode cX1_isSame 29 = .ok (.aload 5, 2) := by decide +kernel
theorem dX1_isSame_31 : decode cX1_isSame 31 = .ok (.iconst 0, 1) := by decide +kernel
theorem dX1_isSame_32 : decode cX1_isSame 32 = .ok (.iaload, 1) := by decide +kernel
theorem dX1_isSame_33 : decode cX1_isSame 33 = .ok (.dup2, 1) := by decide +kernel
theorem dX1_isSame_34 : decode cX1_isSame 34 = .ok (.iaload, 1) := by decide +kernel
theorem dX1_isSame_35 : decode cX1_isSame 35 = .ok (.iconst 1, 1) := by decide +kernel
theorem dX1_isSame_36 : decode cX1_isSame 36 = .ok (.iadd, 1) := by decide +kernel
theorem dX1_isSame_37 : decode cX1_isSame 37 = .ok (.iastore, 1) := by decide +kernel
theorem dX1_isSame_38 : decode cX1_isSame 38 = .ok (.iload_n 3, 1) := by decide +kernel
theorem dX1_isSame_39 : decode cX1_isSame 39 = .ok (.aload 5, 2) := by decide +kernel
theorem dX1_isSame_41 : decode cX1_isSame 41 = .ok (.iconst 1, 1) := by decide +kernel
theorem dX1_isSame_42 : decode cX1_isSame 42 = .ok (.iaload, 1) := by decide +kernel
theorem dX1_isSame_43 : decode cX1_isSame 43 = .ok (.iadd, 1) := by decide +kernel
theorem dX1_isSame_44 : decode cX1_isSame 44 = .ok (.istore_n 3, 1) := by decide +kernel
theorem dX1_isSame_45 : decode cX1_isSame 45 = .ok (.aload_n 1, 1) := by decide +kernel
theorem dX1_isSame_46 : decode cX1_isSame 46 = .ok (.iload 4, 2) := by decide +kernel
theorem dX1_isSame_48 : decode cX1_isSame 48 = .ok (.invokevirtual 41, 3) := by decide +kernel
theorem dX1_isSame_51 : decode cX1_isSame 51 = .ok (.aload 5, 2) := by decide +kernel
theorem dX1_isSame_53 : decode cX1_isSame 53 = .ok (.iconst 0, 1) := by decide +kernel
theorem dX1_isSame_54 : decode cX1_isSame 54 = .ok (.iaload, 1) := by decide +kernel
theorem dX1_isSame_55 : decode cX1_isSame 55 = .ok (.if_icmp .ne 89, 3) := by decide +kernel
theorem dX1_isSame_58 : decode cX1_isSame 58 = .ok (.aload_n 1, 1) := by decide +kernel
theorem dX1_isSame_59 : decode cX1_isSame 59 = .ok (.iload 4, 2) := by decide +kernel
theorem dX1_isSame_61 : decode cX1_isSame 61 = .ok (.invokevirtual 46, 3) := by decide +kernel
theorem dX1_isSame_64 : decode cX1_isSame 64 = .ok (.aload 5, 2) := by decide +kernel
theorem dX1_isSame_66 : decode cX1_isSame 66 = .ok (.iconst 1, 1) := by decide +kernel
theorem dX1_isSame_67 : decode cX1_isSame 67 = .ok (.iaload, 1) := by decide +kernel
theorem dX1_isSame_68 : decode cX1_isSame 68 = .ok (.if_icmp .ne 76, 3) := by decide +kernel
theorem dX1_isSame_71 : decode cX1_isSame 71 = .ok (.aload_n 1, 1) := by decide +kernel
theorem dX1_isSame_72 : decode cX1_isSame 72 = .ok (.iload 4, 2) := by decide +kernel
theorem dX1_isSame_74 : decode cX1_isSame 74 = .ok (.invokevirtual 49, 3) := by decide +kernel
theorem dX1_isSame_77 : decode cX1_isSame 77 = .ok (.aload 5, 2) := by decide +kernel
theorem dX1_isSame_79 : decode cX1_isSame 79 = .ok (.iconst 2, 1) := by decide +kernel
theorem dX1_isSame_80 : decode cX1_isSame 80 = .ok (.iaload, 1) := by decide +kernel
theorem dX1_isSame_81 : decode cX1_isSame 81 = .ok (.if_icmp .ne 63, 3) := by decide +kernel
theorem dX1_isSame_84 : decode cX1_isSame 84 = .ok (.aload_n 1, 1) := by decide +kernel
theorem dX1_isSame_85 : decode cX1_isSame 85 = .ok (.iload 4, 2) := by decide +kernel
theorem dX1_isSame_87 : decode cX1_isSame 87 = .ok (.invokevirtual 52, 3) := by decide +kernel
theorem dX1_isSame_90 : decode cX1_isSame 90 = .ok (.aload 5, 2) := by decide +kernel
theorem dX1_isSame_92 : decode cX1_isSame 92 = .ok (.iconst 3, 1) := by decide +kernel
theorem dX1_isSame_93 : decode cX1_isSame 93 = .ok (.iaload, 1) := by decide +kernel
theorem dX1_isSame_94 : decode cX1_isSame 94 = .ok (.if_icmp .ne 50, 3) := by decide +kernel
theorem dX1_isSame_97 : decode cX1_isSame 97 = .ok (.aload_n 1, 1) := by decide +kernel
theorem dX1_isSame_98 : decode cX1_isSame 98 = .ok (.iload 4, 2) := by decide +kernel
theorem dX1_isSame_100 : decode cX1_isSame 100 = .ok (.invokevirtual 55, 3) := by decide +kernel
theorem dX1_isSame_103 : decode cX1_isSame 103 = .ok (.aload 5, 2) := by decide +kernel
theorem dX1_isSame_105 : decode cX1_isSame 105 = .ok (.iconst 4, 1) := by decide +kernel
theorem dX1_isSame_106 : decode cX1_isSame 106 = .ok (.iaload, 1) := by decide +kernel
theorem dX1_isSame_107 : decode cX1_isSame 107 = .ok (.if_icmp .ne 37, 3) := by decide +kernel
theorem dX1_isSame_110 : decode cX1_isSame 110 = .ok (.aload_n 1, 1) := by decide +kernel
theorem dX1_isSame_111 : decode cX1_isSame 111 = .ok (.iload 4, 2) := by decide +kernel
theorem dX1_isSame_113 : decode cX1_isSame 113 = .ok (.invokevirtual 58, 3) := by decide +kernel
theorem dX1_isSame_116 : decode cX1_isSame 116 = .ok (.aload_n 0, 1) := by decide +kernel
theorem dX1_isSame_117 : decode cX1_isSame 117 = .ok (.iload 4, 2) := by decide +kernel
theorem dX1_isSame_119 : decode cX1_isSame 119 = .ok (.invokevirtual 61, 3) := by decide +kernel
theorem dX1_isSame_122 : decode cX1_isSame 122 = .ok (.if_icmp .ne 22, 3) := by decide +kernel
theorem dX1_isSame_125 : decode cX1_isSame 125 = .ok (.aload_n 1, 1) := by decide +kernel
theorem dX1_isSame_126 : decode cX1_isSame 126 = .ok (.aload 5, 2) := by decide +kernel
theorem dX1_isSame_128 : decode cX1_isSame 128 = .ok (.iconst 0, 1) := by decide +kernel
theorem dX1_isSame_129 : decode cX1_isSame 129 = .ok (.iaload, 1) := by decide +kernel
theorem dX1_isSame_130 : decode cX1_isSame 130 = .ok (.aload_n 0, 1) := by decide +kernel
theorem dX1_isSame_131 : decode cX1_isSame 131 = .ok (.iload 4, 2) := by decide +kernel
theorem dX1_isSame_133 : decode cX1_isSame 133 = .ok (.invokevirtual 61, 3) := by decide +kernel
theorem dX1_isSame_136 : decode cX1_isSame 136 = .ok (.invokevirtual 64, 3) := by decide +kernel
theorem dX1_isSame_139 : decode cX1_isSame 139 = .ok (.iload 4, 2) := by decide +kernel
theorem dX1_isSame_141 : decode cX1_isSame 141 = .ok (.if_icmp .eq 5, 3) := by decide +kernel
theorem dX1_isSame_144 : decode cX1_isSame 144 = .ok (.iconst 0, 1) := by decide +kernel
theorem dX1_isSame_145 : decode cX1_isSame 145 = .ok (.ireturn, 1) := by decide +kernel
theorem dX1_isSame_146 : decode cX1_isSame 146 = .ok (.iinc 4 1, 3) := by decide +kernel
theorem dX1_isSame_149 : decode cX1_isSame 149 = .ok (.goto (-140), 3) := by decide +kernel
theorem dX1_isSame_152 : decode cX1_isSame 152 = .ok (.iconst 0, 1) := by decide +kernel
theorem dX1_isSame_153 : decode cX1_isSame 153 = .ok (.istore 4, 2) := by decide +kernel
theorem dX1_isSame_155 : decode cX1_isSame 155 = .ok (.iload 4, 2) := by decide +kernel
theorem dX1_isSame_157 : decode cX1_isSame 157 = .ok (.aload_n 0, 1) := by decide +kernel
theorem dX1_isSame_158 : decode cX1_isSame 158 = .ok (.getfield 15, 3) := by decide +kernel
theorem dX1_isSame_161 : decode cX1_isSame 161 = .ok (.arraylength, 1) := by decide +kernel
theorem dX1_isSame_162 : decode cX1_isSame 162 = .ok (.if_icmp .ge 117, 3) := by decide +kernel
theorem dX1_isSame_165 : decode cX1_isSame 165 = .ok (.aload_n 1, 1) := by decide +kernel
theorem dX1_isSame_166 : decode cX1_isSame 166 = .ok (.iload 4, 2) := by decide +kernel
theorem dX1_isSame_168 : decode cX1_isSame 168 = .ok (.invokevirtual 67, 3) := by decide +kernel
theorem dX1_isSame_171 : decode cX1_isSame 171 = .ok (.aload_n 0, 1) := by decide +kernel
theorem dX1_isSame_172 : decode cX1_isSame 172 = .ok (.getfield 15, 3) := by decide +kernel
theorem dX1_isSame_175 : decode cX1_isSame 175 = .ok (.iload 4, 2) := by decide +kernel
theorem dX1_isSame_177 : decode cX1_isSame 177 = .ok (.aaload, 1) := by decide +kernel
theorem dX1_isSame_178 : decode cX1_isSame 178 = .ok (.arraylength, 1) := by decide +kernel
theorem dX1_isSame_179 : decode cX1_isSame 179 = .ok (.if_icmp .ne 18, 3) := by decide +kernel
theorem dX1_isSame_182 : decode cX1_isSame 182 = .ok (.aload_n 1, 1) := by decide +kernel
theorem dX1_isSame_183 : decode cX1_isSame 183 = .ok (.iload 4, 2) := by decide +kernel
theorem dX1_isSame_185 : decode cX1_isSame 185 = .ok (.invokevirtual 70, 3) := by decide +kernel
theorem dX1_isSame_188 : decode cX1_isSame 188 = .ok (.aload_n 0, 1) := by decide +kernel
theorem dX1_isSame_189 : decode cX1_isSame 189 = .ok (.iload 4, 2) := by decide +kernel
theorem dX1_isSame_191 : decode cX1_isSame 191 = .ok (.invokevirtual 73, 3) := by decide +kernel
theorem dX1_isSame_194 : decode cX1_isSame 194 = .ok (.if_icmp .eq 5, 3) := by decide +kernel
theorem dX1_isSame_197 : decode cX1_isSame 197 = .ok (.iconst 0, 1) := by decide +kernel
theorem dX1_isSame_198 : decode cX1_isSame 198 = .ok (.ireturn, 1) := by decide +kernel
theorem dX1_isSame_199 : decode cX1_isSame 199 = .ok (.iconst 0, 1) := by decide +kernel
theorem dX1_isSame_200 : decode cX1_isSame 200 = .ok (.istore 5, 2) := by decide +kernel
theorem dX1_isSame_202 : decode cX1_isSame 202 = .ok (.iload 5, 2) := by decide +kernel
theorem dX1_isSame_204 : decode cX1_isSame 204 = .ok (.aload_n 0, 1) := by decide +kernel
theorem dX1_isSame_205 : decode cX1_isSame 205 = .ok (.getfield 15, 3) := by decide +kernel
theorem dX1_isSame_208 : decode cX1_isSame 208 = .ok (.iload 4, 2) := by decide +kernel
theorem dX1_isSame_210 : decode cX1_isSame 210 = .ok (.aaload, 1) := by decide +kernel
theorem dX1_isSame_211 : decode cX1_isSame 211 = .ok (.arraylength, 1) := by decide +kernel
theorem dX1_isSame_212 : decode cX1_isSame 212 = .ok (.if_icmp .ge 61, 3) := by decide +kernel
theorem dX1_isSame_215 : decode cX1_isSame 215 = .ok (.aload_n 1, 1) := by decide +kernel
theorem dX1_isSame_216 : decode cX1_isSame 216 = .ok (.iload 4, 2) := by decide +kernel
theorem dX1_isSame_218 : decode cX1_isSame 218 = .ok (.iload 5, 2) := by decide +kernel
theorem dX1_isSame_220 : decode cX1_isSame 220 = .ok (.invokevirtual 76, 3) := by decide +kernel
theorem dX1_isSame_223 : decode cX1_isSame 223 = .ok (.aload_n 0, 1) := by decide +kernel
theorem dX1_isSame_224 : decode cX1_isSame 224 = .ok (.getfield 18, 3) := by decide +kernel
theorem dX1_isSame_227 : decode cX1_isSame 227 = .ok (.iload 4, 2) := by decide +kernel
theorem dX1_isSame_229 : decode cX1_isSame 229 = .ok (.aaload, 1) := by decide +kernel
theorem dX1_isSame_230 : decode cX1_isSame 230 = .ok (.iload 5, 2) := by decide +kernel
theorem dX1_isSame_232 : decode cX1_isSame 232 = .ok (.iaload, 1) := by decide +kernel
theorem dX1_isSame_233 : decode cX1_isSame 233 = .ok (.if_icmp .ne 32, 3) := by decide +kernel
theorem dX1_isSame_236 : decode cX1_isSame 236 = .ok (.aload_n 1, 1) := by decide +kernel
theorem dX1_isSame_237 : decode cX1_isSame 237 = .ok (.iload 4, 2) := by decide +kernel
theorem dX1_isSame_239 : decode cX1_isSame 239 = .ok (.iload 5, 2) := by decide +kernel
theorem dX1_isSame_241 : decode cX1_isSame 241 = .ok (.invokevirtual 79, 3) := by decide +kernel
theorem dX1_isSame_244 : decode cX1_isSame 244 = .ok (.aload_n 0, 1) := by decide +kernel
theorem dX1_isSame_245 : decode cX1_isSame 245 = .ok (.iload 4, 2) := by decide +kernel
theorem dX1_isSame_247 : decode cX1_isSame 247 = .ok (.iload 5, 2) := by decide +kernel
theorem dX1_isSame_249 : decode cX1_isSame 249 = .ok (.aload_n 0, 1) := by decide +kernel
theorem dX1_isSame_250 : decode cX1_isSame 250 = .ok (.getfield 18, 3) := by decide +kernel
theorem dX1_isSame_253 : decode cX1_isSame 253 = .ok (.iload 4, 2) := by decide +kernel
theorem dX1_isSame_255 : decode cX1_isSame 255 = .ok (.aaload, 1) := by decide +kernel
theorem dX1_isSame_256 : decode cX1_isSame 256 = .ok (.iload 5, 2) := by decide +kernel
theorem dX1_isSame_258 : decode cX1_isSame 258 = .ok (.iaload, 1) := by decide +kernel
theorem dX1_isSame_259 : decode cX1_isSame 259 = .ok (.invokevirtual 29, 3) := by decide +kernel
theorem dX1_isSame_262 : decode cX1_isSame 262 = .ok (.if_icmp .eq 5, 3) := by decide +kernel
theorem dX1_isSame_265 : decode cX1_isSame 265 = .ok (.iconst 0, 1) := by decide +kernel
theorem dX1_isSame_266 : decode cX1_isSame 266 = .ok (.ireturn, 1) := by decide +kernel
theorem dX1_isSame_267 : decode cX1_isSame 267 = .ok (.iinc 5 1, 3) := by decide +kernel
theorem dX1_isSame_270 : decode cX1_isSame 270 = .ok (.goto (-68), 3) := by decide +kernel
theorem dX1_isSame_273 : decode cX1_isSame 273 = .ok (.iinc 4 1, 3) := by decide +kernel
theorem dX1_isSame_276 : decode cX1_isSame 276 = .ok (.goto (-121), 3) := by decide +kernel
theorem dX1_isSame_279 : decode cX1_isSame 279 = .ok (.aload_n 1, 1) := by decide +kernel
theorem dX1_isSame_280 : decode cX1_isSame 280 = .ok (.invokevirtual 82, 3) := by decide +kernel
theorem dX1_isSame_283 : decode cX1_isSame 283 = .ok (.aload_n 0, 1) := by decide +kernel
theorem dX1_isSame_284 : decode cX1_isSame 284 = .ok (.getfield 9, 3) := by decide +kernel
theorem dX1_isSame_287 : decode cX1_isSame 287 = .ok (.arraylength, 1) := by decide +kernel
theorem dX1_isSame_288 : decode cX1_isSame 288 = .ok (.if_icmp .ne 70, 3) := by decide +kernel
theorem dX1_isSame_291 : decode cX1_isSame 291 = .ok (.aload_n 1, 1) := by decide +kernel
theorem dX1_isSame_292 : decode cX1_isSame 292 = .ok (.iconst 0, 1) := by decide +kernel
theorem dX1_isSame_293 : decode cX1_isSame 293 = .ok (.invokevirtual 85, 3) := by decide +kernel
theorem dX1_isSame_296 : decode cX1_isSame 296 = .ok (.aload_n 2, 1) := by decide +kernel
theorem dX1_isSame_297 : decode cX1_isSame 297 = .ok (.iconst 0, 1) := by decide +kernel
theorem dX1_isSame_298 : decode cX1_isSame 298 = .ok (.iaload, 1) := by decide +kernel
theorem dX1_isSame_299 : decode cX1_isSame 299 = .ok (.if_icmp .ne 59, 3) := by decide +kernel
theorem dX1_isSame_302 : decode cX1_isSame 302 = .ok (.aload_n 1, 1) := by decide +kernel
theorem dX1_isSame_303 : decode cX1_isSame 303 = .ok (.iconst 1, 1) := by decide +kernel
theorem dX1_isSame_304 : decode cX1_isSame 304 = .ok (.invokevirtual 85, 3) := by decide +kernel
theorem dX1_isSame_307 : decode cX1_isSame 307 = .ok (.aload_n 2, 1) := by decide +kernel
theorem dX1_isSame_308 : decode cX1_isSame 308 = .ok (.iconst 1, 1) := by decide +kernel
theorem dX1_isSame_309 : decode cX1_isSame 309 = .ok (.iaload, 1) := by decide +kernel
theorem dX1_isSame_310 : decode cX1_isSame 310 = .ok (.if_icmp .ne 48, 3) := by decide +kernel
theorem dX1_isSame_313 : decode cX1_isSame 313 = .ok (.aload_n 1, 1) := by decide +kernel
theorem dX1_isSame_314 : decode cX1_isSame 314 = .ok (.invokevirtual 88, 3) := by decide +kernel
theorem dX1_isSame_317 : decode cX1_isSame 317 = .ok (.aload_n 0, 1) := by decide +kernel
theorem dX1_isSame_318 : decode cX1_isSame 318 = .ok (.getfield 15, 3) := by decide +kernel
theorem dX1_isSame_321 : decode cX1_isSame 321 = .ok (.arraylength, 1) := by decide +kernel
theorem dX1_isSame_322 : decode cX1_isSame 322 = .ok (.if_icmp .ne 36, 3) := by decide +kernel
theorem dX1_isSame_325 : decode cX1_isSame 325 = .ok (.aload_n 1, 1) := by decide +kernel
theorem dX1_isSame_326 : decode cX1_isSame 326 = .ok (.invokevirtual 91, 3) := by decide +kernel
theorem dX1_isSame_329 : decode cX1_isSame 329 = .ok (.aload_n 0, 1) := by decide +kernel
theorem dX1_isSame_330 : decode cX1_isSame 330 = .ok (.getfield 9, 3) := by decide +kernel
theorem dX1_isSame_333 : decode cX1_isSame 333 = .ok (.arraylength, 1) := by decide +kernel
theorem dX1_isSame_334 : decode cX1_isSame 334 = .ok (.ifCond .ne 7, 3) := by decide +kernel
theorem dX1_isSame_337 : decode cX1_isSame 337 = .ok (.dconst 0, 1) := by decide +kernel
theorem dX1_isSame_338 : decode cX1_isSame 338 = .ok (.goto 12, 3) := by decide +kernel
theorem dX1_isSame_341 : decode cX1_isSame 341 = .ok (.iload_n 3, 1) := by decide +kernel
theorem dX1_isSame_342 : decode cX1_isSame 342 = .ok (.i2d, 1) := by decide +kernel
theorem dX1_isSame_343 : decode cX1_isSame 343 = .ok (.aload_n 0, 1) := by decide +kernel
theorem dX1_isSame_344 : decode cX1_isSame 344 = .ok (.getfield 9, 3) := by decide +kernel
theorem dX1_isSame_347 : decode cX1_isSame 347 = .ok (.arraylength, 1) := by decide +kernel
theorem dX1_isSame_348 : decode cX1_isSame 348 = .ok (.i2d, 1) := by decide +kernel
theorem dX1_isSame_349 : decode cX1_isSame 349 = .ok (.ddiv, 1) := by decide +kernel
theorem dX1_isSame_350 : decode cX1_isSame 350 = .ok (.dcmp .l, 1) := by decide +kernel
theorem dX1_isSame_351 : decode cX1_isSame 351 = .ok (.ifCond .ne 7, 3) := by decide +kernel
theorem dX1_isSame_354 : decode cX1_isSame 354 = .ok (.iconst 1, 1) := by decide +kernel
theorem dX1_isSame_355 : decode cX1_isSame 355 = .ok (.goto 4, 3) := by decide +kernel
theorem dX1_isSame_358 : decode cX1_isSame 358 = .ok (.iconst 0, 1) := by decide +kernel
theorem dX1_isSame_359 : decode cX1_isSame 359 = .ok (.ireturn, 1) := by decide +kernel
end
section
/-! the rack's walks: worlds, contracts' words, calls, loops -/
theorem kr_good {ws : List Cond} (h : ∀ w ∈ ws, w ∈ kr_all) : GoodIn kr_all ws := fun w hw => ⟨h w hw, good_of_word (List.mem_filter.mp (h w hw)).2⟩
theorem kr_gV {own C : String} {idx n : Nat} {y : MethodName} {b : ByteArray} {r : Option FieldType} (h1 : Cond.methodLink own idx y ∈ kr_all) (h2 : Cond.instanceMethod y ∈ kr_all) (h3 : Cond.selects C y y ∈ kr_all) (h4 : Cond.initialized C ∈ kr_all) (h5 : Cond.code y b n r ∈ kr_all) : GoodIn kr_all (wsV own idx C y (Cond.code y b n r :: kr_all)) := by
  refine kr_good (fun w hw => ?_)
  unfold wsV at hw
  rcases List.mem_append.mp hw with h | h
  · simp only [List.mem_cons, List.not_mem_nil, or_false] at h
    rcases h with rfl | rfl | rfl | rfl <;> assumption
  · rcases List.mem_cons.mp h with rfl | h
    · exact h5
    · exact h
theorem kr_gS {own : String} {idx n : Nat} {y : MethodName} {b : ByteArray} {r : Option FieldType} (h1 : Cond.methodLink own idx y ∈ kr_all) (h2 : Cond.static y ∈ kr_all) (h4 : Cond.initialized own ∈ kr_all) (h5 : Cond.code y b n r ∈ kr_all) : GoodIn kr_all (wsS own idx y (Cond.code y b n r :: kr_all)) := by
  refine kr_good (fun w hw => ?_)
  unfold wsS at hw
  rcases List.mem_append.mp hw with h | h
  · simp only [List.mem_cons, List.not_mem_nil, or_false] at h
    rcases h with rfl | rfl | rfl <;> assumption
  · rcases List.mem_cons.mp h with rfl | h
    · exact h5
    · exact h
theorem kr_gC {n : Nat} {y : MethodName} {b : ByteArray} {r : Option FieldType} (h5 : Cond.code y b n r ∈ kr_all) : GoodIn kr_all (Cond.code y b n r :: kr_all) := kr_good (fun w hw => by
  rcases List.mem_cons.mp hw with rfl | h
  · exact h5
  · exact h)
/-- a row of rows, one replaced -/
def kr_up (A : Nat → Nat → Int32) (i : Nat) (f : Nat → Int32) : Nat → Nat → Int32 := fun j => if j = i then f else A j
abbrev kr_W0 (cy : ClassId) (h : Nat) (a : Nat → Nat) (N L : Nat) (A : Nat → Nat → Int32) : va_W :=
  [(h, .inr (0, [.ref (a 0), .ref (a 1), .ref (a 2), .ref (a 3), .ref (a 4), .int (nI N), .ref (a 5), .int (nI L), .ref (a 6), .ref (a 7)])), (a 0, .inl (cy, 16, .inl (A 0))), (a 1, .inl (cy, 16, .inl (A 1))), (a 2, .inl (cy, 16, .inl (A 2))), (a 3, .inl (cy, 16, .inl (A 3))), (a 4, .inl (cy, 16, .inl (A 4))), (a 5, .inl (cy, 6, .inl (A 5))), (a 6, .inl (cy, 30, .inl (A 6))), (a 7, .inl (cy, 30, .inl (A 7)))]
/-- the heap holds the world -/
def kr_R (D : va_G) (ws : va_W) (cy : ClassId) (U : State) : Prop := va_P D vwCl ws U.heap ∧ va_K D vwCl [(cy, .int)] U
theorem kr_bl {D : va_G} {ws : va_W} {cy : ClassId} {av : List Value} : FrameBlind (va_Pc av (kr_R D ws cy)) := fun a U g mk q => ⟨q.1, q.2.1, va_K.moved (u := U) (U := U.calling g mk a) (Vm.Alike.refl U.vm) q.2.2⟩
theorem kr_blT {av : List Value} : FrameBlind (va_Pc av (fun _ => True)) := fun _ _ _ _ q => q
theorem kr_pr {D : va_G} {ws : va_W} {cy : ClassId} {av : List Value} {H : Heap} {s : State} (hP : va_P D vwCl ws H) (hK : va_K D vwCl [(cy, .int)] s) : ∀ U : State, U.heap = H → s.WarmedH U.vm → va_Pc av (kr_R D ws cy) av.toArray U := fun U hU hW => ⟨rfl, by rw [hU]; exact hP, va_K.moved hW.alike hK⟩
theorem kr_pv0 {D : va_G} {cy : ClassId} {h : Nat} {a : Nat → Nat} {N L : Nat} {A : Nat → Nat → Int32} {As : List Value} {H : Heap} {s : State} (hP : va_P D vwCl (kr_W0 cy h a N L A) H) (hK : va_K D vwCl [(cy, .int)] s) : PreV s H RX0 h (va_Pc (.ref h :: As) (kr_R D (kr_W0 cy h a N L A) cy)) As := ⟨kr_bl, va_recv hK hP (ci := 0) (q0 := 0) rfl rfl, kr_pr hP hK⟩
/-- a body, begun -/
theorem kr_of {l : Launch} {y : MethodName} {cc : ByteArray} {maxL : Nat} {ret : Option FieldType} {rm : Room} {vs : List Value} {B : State → Prop} {Qc : Array Value → State → Outcome → State → Prop} {mc ms : Nat} {free : Addr → Prop} (hy : plainName y.cls = true) (hlen : (lg_sl vs).length ≤ maxL)
    (body : ∀ (p : Program) (e : Env) (s : State) (m : MethodId) (below : List Frame) (meth : Method) (c : Code) (ls : Array Slot), p.tables.exec = Jvm.exec → c.code = cc → c.maxLocals = maxL → meth.sig.returnType = ret → (∀ w ∈ kr_all, w.before vs.toArray s = true) → s.vm.findClass y.cls = some m.cls → meth.locks = false → meth.name = y.name → B s → lv_has ls maxL (lv_args 0 vs) → W p l e rm s m vs.toArray below meth c s.heap [] 0 0 (MQ below Qc vs.toArray s mc ms free) (F0 m 0 ls [])) :
    Met l y (Cond.code y cc maxL ret :: kr_all) rm (va_Pc vs B) Qc mc ms free := by
  refine Met.ofW (cc := cc) (maxL := maxL) (ret := ret) hy rfl ?_
  intro p e s m args below meth c s₁ B hml hv
  obtain ⟨rfl, hv⟩ := hv
  have hts := atoms_spec (ws := Cond.code y cc maxL ret :: kr_all) B.pre
  have hl := lv_entry vs (n := maxL) hlen
  rw [lg_entry_eq]
  exact body p e s m below meth c _ B.exec B.bytes hml B.returns (fun w h => hts w (List.mem_cons_of_mem _ h)) (findClass_of_methodNamed B.named) B.notSynchronized (name_of_methodNamed B.named B.method).1 hv hl
/-- a body that may throw, begun -/
theorem kr_ofX {l : Launch} {y : MethodName} {cc : ByteArray} {maxL : Nat} {ret : Option FieldType} {rm : Room} {vs : List Value} {B : State → Prop} {Qc : Array Value → State → Outcome → State → Prop} {XC : String → State → State → Prop} {mc ms : Nat} {free : Addr → Prop} (hy : plainName y.cls = true) (hlen : (lg_sl vs).length ≤ maxL)
    (body : ∀ (p : Program) (e : Env) (s : State) (m : MethodId) (below : List Frame) (meth : Method) (c : Code) (ls : Array Slot), p.tables.exec = Jvm.exec → c.code = cc → c.maxLocals = maxL → meth.sig.returnType = ret → (∀ w ∈ kr_all, w.before vs.toArray s = true) → s.vm.findClass y.cls = some m.cls → meth.locks = false → (∀ x ∈ c.exceptionTable.toList, False) → B s → lv_has ls maxL (lv_args 0 vs) → W p l e rm s m vs.toArray below meth c s.heap [] 0 0 (vx_MQ below Qc XC vs.toArray s mc ms free) (F0 m 0 ls [])) :
    vx_Met l y (Cond.code y cc maxL ret :: kr_all) rm (va_Pc vs B) Qc XC mc ms free := by
  refine vx_ofW (cc := cc) (maxL := maxL) (ret := ret) hy rfl ?_
  intro p e s m args below meth c s₁ B hml ht hv
  obtain ⟨rfl, hv⟩ := hv
  have hts := atoms_spec (ws := Cond.code y cc maxL ret :: kr_all) B.pre
  have hl := lv_entry vs (n := maxL) hlen
  rw [lg_entry_eq]
  exact body p e s m below meth c _ B.exec B.bytes hml B.returns (fun w h => hts w (List.mem_cons_of_mem _ h)) (findClass_of_methodNamed B.named) B.notSynchronized ht hv hl
section KRW
variable {p : Program} {l : Launch} {e : Env} {R : Room} {s : State} {m : MethodId} {args : Array Value} {below : List Frame} {meth : Method} {c : Code} {H : Heap} {locs : List Loc} {cells slots : Nat} {Q : State → Prop} {cc : ByteArray} {pc : Nat} {ls : Array Slot} {rest st st0 : List Value}
/-- a loop: a measure that falls, the heap as it is -/
theorem kr_lp {α : Type} {nL : Nat} (lv : α → List (Nat × Value)) (I : α → Prop) (μ : α → Nat)
    (body : ∀ (q : α) (ls : Array Slot), I q → lv_has ls nL (lv q) → (∀ (q' : α) (ls' : Array Slot), I q' → μ q' < μ q → lv_has ls' nL (lv q') → W p l e R s m args below meth c H locs cells slots Q (F0 m pc ls' st)) → W p l e R s m args below meth c H locs cells slots Q (F0 m pc ls st))
    (q0 : α) (h0 : I q0) {ls : Array Slot} (hl : lv_has ls nL (lv q0)) : W p l e R s m args below meth c H locs cells slots Q (F0 m pc ls st) := by
  have key : ∀ (n : Nat) (q : α) (ls : Array Slot), μ q < n → I q → lv_has ls nL (lv q) → W p l e R s m args below meth c H locs cells slots Q (F0 m pc ls st) := by
    intro n
    induction n with
    | zero => intro q ls h; omega
    | succ n ih => intro q ls h hI hl; exact body q ls hI hl (fun q' ls' hI' hm hl' => ih q' ls' (by omega) hI' hl')
  exact key (μ q0 + 1) q0 ls (Nat.lt_succ_self _) h0 hl
/-- a loop that writes: the heap and what was written go with the state -/
theorem kr_lpH {α : Type} {nL : Nat} (lv : α → List (Nat × Value)) (I : α → Heap → List Loc → Prop) (μ : α → Nat)
    (body : ∀ (q : α) (H : Heap) (locs : List Loc) (ls : Array Slot), I q H locs → lv_has ls nL (lv q) → (∀ (q' : α) (H' : Heap) (locs' : List Loc) (ls' : Array Slot), I q' H' locs' → μ q' < μ q → lv_has ls' nL (lv q') → W p l e R s m args below meth c H' locs' cells slots Q (F0 m pc ls' st)) → W p l e R s m args below meth c H locs cells slots Q (F0 m pc ls st))
    (q0 : α) {H : Heap} {locs : List Loc} (h0 : I q0 H locs) {ls : Array Slot} (hl : lv_has ls nL (lv q0)) : W p l e R s m args below meth c H locs cells slots Q (F0 m pc ls st) := by
  have key : ∀ (n : Nat) (q : α) (H : Heap) (locs : List Loc) (ls : Array Slot), μ q < n → I q H locs → lv_has ls nL (lv q) → W p l e R s m args below meth c H locs cells slots Q (F0 m pc ls st) := by
    intro n
    induction n with
    | zero => intro q H locs ls h; omega
    | succ n ih => intro q H locs ls h hI hl; exact body q H locs ls hI hl (fun q' H' locs' ls' hI' hm hl' => ih q' H' locs' ls' (by omega) hI' hl')
  exact key (μ q0 + 1) q0 H locs ls (Nat.lt_succ_self _) h0 hl
/-- what lies behind a join, walked once -/
theorem kr_jn {pcJ : Nat} {stJ : List Value} (P : Int32 → Prop) (hJ : ∀ v : Int32, P v → W p l e R s m args below meth c H locs cells slots Q (F0 m pcJ ls (.int v :: stJ))) (k : (∀ v : Int32, P v → W p l e R s m args below meth c H locs cells slots Q (F0 m pcJ ls (.int v :: stJ))) → W p l e R s m args below meth c H locs cells slots Q (F0 m pc ls st)) : W p l e R s m args below meth c H locs cells slots Q (F0 m pc ls st) := k hJ
theorem kr_cut {pcJ : Nat} {stJ : List Value} (hJ : W p l e R s m args below meth c H locs cells slots Q (F0 m pcJ ls stJ)) (k : W p l e R s m args below meth c H locs cells slots Q (F0 m pcJ ls stJ) → W p l e R s m args below meth c H locs cells slots Q (F0 m pc ls st)) : W p l e R s m args below meth c H locs cells slots Q (F0 m pc ls st) := k hJ
theorem kr_iaddN (hx : p.tables.exec = Jvm.exec) (hb : c.code = cc) (x y : Nat) (hdg : decode cc pc = .ok (.iadd, 1)) (k : W p l e R s m args below meth c H locs cells slots Q (F0 m (pc + 1) ls (.int (nI (x + y)) :: rest))) : W p l e R s m args below meth c H locs cells slots Q (F0 m pc ls (.int (nI y) :: .int (nI x) :: rest)) := lv_iadd hx hb hdg (by rw [nI_add]; exact k)
theorem kr_imulN (hx : p.tables.exec = Jvm.exec) (hb : c.code = cc) (x y : Nat) (hdg : decode cc pc = .ok (.imul, 1)) (k : W p l e R s m args below meth c H locs cells slots Q (F0 m (pc + 1) ls (.int (nI (x * y)) :: rest))) : W p l e R s m args below meth c H locs cells slots Q (F0 m pc ls (.int (nI y) :: .int (nI x) :: rest)) := lv_imul hx hb hdg (by rw [pk_mul]; exact k)
theorem kr_isubN (hx : p.tables.exec = Jvm.exec) (hb : c.code = cc) (x y : Nat) (h : y ≤ x) (hdg : decode cc pc = .ok (.isub, 1)) (k : W p l e R s m args below meth c H locs cells slots Q (F0 m (pc + 1) ls (.int (nI (x - y)) :: rest))) : W p l e R s m args below meth c H locs cells slots Q (F0 m pc ls (.int (nI y) :: .int (nI x) :: rest)) := lv_isub hx hb hdg (by rw [pk_sub h]; exact k)
theorem kr_ald {D : va_G} {cl : List vw_C} {tys : List (ClassId × FieldType)} {ws : va_W} {a : Nat} (hx : p.tables.exec = Jvm.exec) (hb : c.code = cc) (hK : va_K D cl tys s) (hP : va_P D cl ws H) (q0 t0 : Nat) {cA : ClassId} {n : Nat} {f : Nat → Int32} (ha : ws[q0]? = some (a, .inl (cA, n, .inl f))) (ht : tys[t0]? = some (cA, .int)) (k : Nat) (hk : k < n) (hn : n < 2 ^ 31) (hdg : decode cc pc = .ok (.iaload, 1))
    (kk : W p l e R s m args below meth c H locs cells slots Q (F0 m (pc + 1) ls (.int (f k) :: rest))) : W p l e R s m args below meth c H locs cells slots Q (F0 m pc ls (.int (nI k) :: .ref a :: rest)) := va_iald hx hb hK hP q0 t0 ha ht (vp_in_nI hk hn) hdg (by rw [nI_clamp (by omega)]; exact kk)
theorem kr_ast {D : va_G} {cl : List vw_C} {tys : List (ClassId × FieldType)} {ws : va_W} {a : Nat} {A : Nat → Prop} {H0 : Heap} (hx : p.tables.exec = Jvm.exec) (hb : c.code = cc) (hK : va_K D cl tys s) (hP : va_P D cl ws H) (hD : va_D A ws) (hS : va_S A H0 H locs) (q0 t0 : Nat) {cA : ClassId} {n : Nat} {f : Nat → Int32} (ha : ws[q0]? = some (a, .inl (cA, n, .inl f))) (ht : tys[t0]? = some (cA, .int)) (k : Nat) {x : Int32} (hk : k < n) (hn : n < 2 ^ 31) (hdg : decode cc pc = .ok (.iastore, 1))
    (kk : ∀ (H1 : Heap) (locs1 : List Loc), va_P D cl (ws.set q0 (a, .inl (cA, n, .inl (upd f k x)))) H1 → va_D A (ws.set q0 (a, .inl (cA, n, .inl (upd f k x)))) → va_S A H0 H1 locs1 → W p l e R s m args below meth c H1 locs1 cells slots Q (F0 m (pc + 1) ls rest)) : W p l e R s m args below meth c H locs cells slots Q (F0 m pc ls (.int x :: .int (nI k) :: .ref a :: rest)) := va_iast hx hb hK hP hD hS q0 t0 ha ht (vp_in_nI hk hn) hdg (by rw [nI_clamp (by omega)]; exact kk)
/-- calls of methods that leave the heap as it is -/
theorem kr_vI {own C : String} {idx maxL nL n : Nat} {y : MethodName} {bytes : ByteArray} {ret : Option FieldType} {rm : Room} {b : Addr} {As : List Value} {Pc : Array Value → State → Prop} {post : Int32 → Prop} (S : CallFix p m c cc nL s args kr_all own) (hM : Met l y (Cond.code y bytes maxL ret :: kr_all) rm Pc (vp_Si post) 0 0 (fun _ => False)) (g : GoodIn kr_all (wsV own idx C y (Cond.code y bytes maxL ret :: kr_all))) (hr0 : rm.cells = 0 ∧ rm.slots = 0)
    (hd : y.cls = C ∧ y.cls ≠ "java/lang/invoke/MethodHandle" ∧ y.cls ≠ "java/lang/invoke/VarHandle" ∧ (parseMethodDescriptor y.desc).map (fun d => d.parameters.length) = some n) (hR : rm.frames + 1 ≤ R.frames ∧ 8 + (maxL + 11) + rm.locals ≤ R.locals) (hp : PreV s H C b Pc As) (hn : As.length = n) (hsize : ls.size = nL) (hst : st0 = As.reverse ++ .ref b :: rest) (hW : (rest.map fun v => v.category).sum ≤ 8) (hdg : decode cc pc = .ok (.invokevirtual idx, 3)) (hf : cells ≤ R.cells ∧ slots ≤ R.slots)
    (kk : ∀ r : Int32, post r → W p l e R s m args below meth c H locs cells slots Q (F0 m (pc + 3) ls (.int r :: rest))) : W p l e R s m args below meth c H locs cells slots Q (F0 m pc ls st0) :=
  vp_callSi (W.runV S hM (cwV n S.2.2.2.2 g rfl hr0.1 hr0.2 hd hR) hp rfl hn hsize hst (lv_room (pc := pc) (ls := ls) (m := m) (rest := st0) hW) hdg hf) kk
theorem kr_vV {own C : String} {idx maxL nL n : Nat} {y : MethodName} {bytes : ByteArray} {ret : Option FieldType} {rm : Room} {b : Addr} {As : List Value} {Pc : Array Value → State → Prop} {post : Unit → Prop} (S : CallFix p m c cc nL s args kr_all own) (hM : Met l y (Cond.code y bytes maxL ret :: kr_all) rm Pc (va_Sv post) 0 0 (fun _ => False)) (g : GoodIn kr_all (wsV own idx C y (Cond.code y bytes maxL ret :: kr_all))) (hr0 : rm.cells = 0 ∧ rm.slots = 0)
    (hd : y.cls = C ∧ y.cls ≠ "java/lang/invoke/MethodHandle" ∧ y.cls ≠ "java/lang/invoke/VarHandle" ∧ (parseMethodDescriptor y.desc).map (fun d => d.parameters.length) = some n) (hR : rm.frames + 1 ≤ R.frames ∧ 8 + (maxL + 11) + rm.locals ≤ R.locals) (hp : PreV s H C b Pc As) (hn : As.length = n) (hsize : ls.size = nL) (hst : st0 = As.reverse ++ .ref b :: rest) (hW : (rest.map fun v => v.category).sum ≤ 8) (hdg : decode cc pc = .ok (.invokevirtual idx, 3)) (hf : cells ≤ R.cells ∧ slots ≤ R.slots)
    (kk : W p l e R s m args below meth c H locs cells slots Q (F0 m (pc + 3) ls rest)) : W p l e R s m args below meth c H locs cells slots Q (F0 m pc ls st0) :=
  va_csv (W.runV S hM (cwV n S.2.2.2.2 g rfl hr0.1 hr0.2 hd hR) hp rfl hn hsize hst (lv_room (pc := pc) (ls := ls) (m := m) (rest := st0) hW) hdg hf) (fun _ => kk)
theorem kr_vL {own C : String} {idx maxL nL n : Nat} {y : MethodName} {bytes : ByteArray} {ret : Option FieldType} {rm : Room} {b : Addr} {As : List Value} {Pc : Array Value → State → Prop} {post : Int64 → Prop} (S : CallFix p m c cc nL s args kr_all own) (hM : Met l y (Cond.code y bytes maxL ret :: kr_all) rm Pc (vp_Sl post) 0 0 (fun _ => False)) (g : GoodIn kr_all (wsV own idx C y (Cond.code y bytes maxL ret :: kr_all))) (hr0 : rm.cells = 0 ∧ rm.slots = 0)
    (hd : y.cls = C ∧ y.cls ≠ "java/lang/invoke/MethodHandle" ∧ y.cls ≠ "java/lang/invoke/VarHandle" ∧ (parseMethodDescriptor y.desc).map (fun d => d.parameters.length) = some n) (hR : rm.frames + 1 ≤ R.frames ∧ 8 + (maxL + 11) + rm.locals ≤ R.locals) (hp : PreV s H C b Pc As) (hn : As.length = n) (hsize : ls.size = nL) (hst : st0 = As.reverse ++ .ref b :: rest) (hW : (rest.map fun v => v.category).sum ≤ 8) (hdg : decode cc pc = .ok (.invokevirtual idx, 3)) (hf : cells ≤ R.cells ∧ slots ≤ R.slots)
    (kk : ∀ r : Int64, post r → W p l e R s m args below meth c H locs cells slots Q (F0 m (pc + 3) ls (.long r :: rest))) : W p l e R s m args below meth c H locs cells slots Q (F0 m pc ls st0) :=
  vp_callSl (W.runV S hM (cwV n S.2.2.2.2 g rfl hr0.1 hr0.2 hd hR) hp rfl hn hsize hst (lv_room (pc := pc) (ls := ls) (m := m) (rest := st0) hW) hdg hf) kk
theorem kr_sI {own : String} {idx maxL nL n : Nat} {y : MethodName} {bytes : ByteArray} {ret : Option FieldType} {rm : Room} {As : List Value} {Pc : Array Value → State → Prop} {post : Int32 → Prop} (S : CallFix p m c cc nL s args kr_all own) (hM : Met l y (Cond.code y bytes maxL ret :: kr_all) rm Pc (vp_Si post) 0 0 (fun _ => False)) (g : GoodIn kr_all (wsS own idx y (Cond.code y bytes maxL ret :: kr_all))) (hr0 : rm.cells = 0 ∧ rm.slots = 0)
    (hd : y.cls = own ∧ y.cls ≠ "java/lang/invoke/MethodHandle" ∧ y.cls ≠ "java/lang/invoke/VarHandle" ∧ (parseMethodDescriptor y.desc).map (fun d => d.parameters.length) = some n) (hR : rm.frames + 1 ≤ R.frames ∧ 8 + (maxL + 11) + rm.locals ≤ R.locals) (hp : PreS s H Pc As) (hn : As.length = n) (hsize : ls.size = nL) (hst : st0 = As.reverse ++ rest) (hW : (rest.map fun v => v.category).sum ≤ 8) (hdg : decode cc pc = .ok (.invokestatic idx, 3)) (hf : cells ≤ R.cells ∧ slots ≤ R.slots)
    (kk : ∀ r : Int32, post r → W p l e R s m args below meth c H locs cells slots Q (F0 m (pc + 3) ls (.int r :: rest))) : W p l e R s m args below meth c H locs cells slots Q (F0 m pc ls st0) :=
  vp_callSi (W.runS S hM (cwS n S.2.2.2.2 g rfl hr0.1 hr0.2 hd hR) hp rfl hn hsize hst (lv_room (pc := pc) (ls := ls) (m := m) (rest := st0) hW) hdg hf) kk
theorem kr_sL {own : String} {idx maxL nL n : Nat} {y : MethodName} {bytes : ByteArray} {ret : Option FieldType} {rm : Room} {As : List Value} {Pc : Array Value → State → Prop} {post : Int64 → Prop} (S : CallFix p m c cc nL s args kr_all own) (hM : Met l y (Cond.code y bytes maxL ret :: kr_all) rm Pc (vp_Sl post) 0 0 (fun _ => False)) (g : GoodIn kr_all (wsS own idx y (Cond.code y bytes maxL ret :: kr_all))) (hr0 : rm.cells = 0 ∧ rm.slots = 0)
    (hd : y.cls = own ∧ y.cls ≠ "java/lang/invoke/MethodHandle" ∧ y.cls ≠ "java/lang/invoke/VarHandle" ∧ (parseMethodDescriptor y.desc).map (fun d => d.parameters.length) = some n) (hR : rm.frames + 1 ≤ R.frames ∧ 8 + (maxL + 11) + rm.locals ≤ R.locals) (hp : PreS s H Pc As) (hn : As.length = n) (hsize : ls.size = nL) (hst : st0 = As.reverse ++ rest) (hW : (rest.map fun v => v.category).sum ≤ 8) (hdg : decode cc pc = .ok (.invokestatic idx, 3)) (hf : cells ≤ R.cells ∧ slots ≤ R.slots)
    (kk : ∀ r : Int64, post r → W p l e R s m args below meth c H locs cells slots Q (F0 m (pc + 3) ls (.long r :: rest))) : W p l e R s m args below meth c H locs cells slots Q (F0 m pc ls st0) :=
  vp_callSl (W.runS S hM (cwS n S.2.2.2.2 g rfl hr0.1 hr0.2 hd hR) hp rfl hn hsize hst (lv_room (pc := pc) (ls := ls) (m := m) (rest := st0) hW) hdg hf) kk
theorem kr_sV {own : String} {idx maxL nL n : Nat} {y : MethodName} {bytes : ByteArray} {ret : Option FieldType} {rm : Room} {As : List Value} {Pc : Array Value → State → Prop} {post : Unit → Prop} (S : CallFix p m c cc nL s args kr_all own) (hM : Met l y (Cond.code y bytes maxL ret :: kr_all) rm Pc (va_Sv post) 0 0 (fun _ => False)) (g : GoodIn kr_all (wsS own idx y (Cond.code y bytes maxL ret :: kr_all))) (hr0 : rm.cells = 0 ∧ rm.slots = 0)
    (hd : y.cls = own ∧ y.cls ≠ "java/lang/invoke/MethodHandle" ∧ y.cls ≠ "java/lang/invoke/VarHandle" ∧ (parseMethodDescriptor y.desc).map (fun d => d.parameters.length) = some n) (hR : rm.frames + 1 ≤ R.frames ∧ 8 + (maxL + 11) + rm.locals ≤ R.locals) (hp : PreS s H Pc As) (hn : As.length = n) (hsize : ls.size = nL) (hst : st0 = As.reverse ++ rest) (hW : (rest.map fun v => v.category).sum ≤ 8) (hdg : decode cc pc = .ok (.invokestatic idx, 3)) (hf : cells ≤ R.cells ∧ slots ≤ R.slots)
    (kk : W p l e R s m args below meth c H locs cells slots Q (F0 m (pc + 3) ls rest)) : W p l e R s m args below meth c H locs cells slots Q (F0 m pc ls st0) :=
  va_csv (W.runS S hM (cwS n S.2.2.2.2 g rfl hr0.1 hr0.2 hd hR) hp rfl hn hsize hst (lv_room (pc := pc) (ls := ls) (m := m) (rest := st0) hW) hdg hf) (fun _ => kk)
/-- the ends of methods that leave the heap as it is -/
theorem kr_eI {post : Int32 → Prop} {v : Int32} (hx : p.tables.exec = Jvm.exec) (hb : c.code = cc) (hr : meth.sig.returnType = some .int) (hlocks : meth.locks = false) (hH : H = s.heap) (hp : post v) (hdg : decode cc pc = .ok (.ireturn, 1)) : W p l e R s m args below meth c H [] cells slots (MQ below (vp_Si post) args s cells slots (fun _ => False)) (F0 m pc ls [.int v]) := W.iret hx hb hr (fun t ht _ => ⟨v, rfl, hp, ht.trans hH⟩) (fun q hq => absurd hq List.not_mem_nil) hdg hlocks
theorem kr_eZ {post : Int32 → Prop} {v : Int32} (hx : p.tables.exec = Jvm.exec) (hb : c.code = cc) (hr : meth.sig.returnType = some .boolean) (hlocks : meth.locks = false) (hH : H = s.heap) (hv : v = 0 ∨ v = 1) (hp : post v) (hdg : decode cc pc = .ok (.ireturn, 1)) : W p l e R s m args below meth c H [] cells slots (MQ below (vp_Si post) args s cells slots (fun _ => False)) (F0 m pc ls [.int v]) := W.zret (ty := .boolean) hx hb hr (by rcases hv with rfl | rfl <;> decide) (fun t ht _ => ⟨v, rfl, hp, ht.trans hH⟩) (fun q hq => absurd hq List.not_mem_nil) hdg hlocks
theorem kr_eV {post : Unit → Prop} (hx : p.tables.exec = Jvm.exec) (hb : c.code = cc) (hr : meth.sig.returnType = none) (hlocks : meth.locks = false) (hH : H = s.heap) (hp : post ()) (hdg : decode cc pc = .ok (.return_, 1)) : W p l e R s m args below meth c H [] cells slots (MQ below (va_Sv post) args s cells slots (fun _ => False)) (F0 m pc ls []) := W.vret hx hb hr (fun t ht _ => ⟨rfl, hp, ht.trans hH⟩) (fun q hq => absurd hq List.not_mem_nil) hdg hlocks
theorem kr_eL {post : Int64 → Prop} {v : Int64} (hx : p.tables.exec = Jvm.exec) (hb : c.code = cc) (hr : meth.sig.returnType = some .long) (hlocks : meth.locks = false) (hH : H = s.heap) (hp : post v) (hdg : decode cc pc = .ok (.lreturn, 1)) : W p l e R s m args below meth c H [] cells slots (MQ below (vp_Sl post) args s cells slots (fun _ => False)) (F0 m pc ls [.long v]) := W.lret hx hb hr (fun t ht _ => ⟨v, rfl, hp, ht.trans hH⟩) (fun q hq => absurd hq List.not_mem_nil) hdg hlocks
end KRW
end
section
/-! what the calls answer, as functions of the rows: N knots, L lines, A the rows (0 kind, 1 efficiency, 2 crossings, 3 spill load, 4 into, 5 ropes, 6 tied, 7 rope) -/
def kr_ix (x : Int32) : Nat := x.toNatClampNeg
theorem kr_ix_nI {n : Nat} (h : n < 2 ^ 31) : kr_ix (nI n) = n := nI_clamp h
theorem kr_inc (i : Nat) : nI i + Int32.ofInt 1 = nI (i + 1) := nI_1 i
def kr_mx (x y : Int32) : Int32 := if x < y then y else x
def kr_mn (x y : Int32) : Int32 := if y < x then y else x
abbrev kr_go (A : Nat → Nat → Int32) (ld x : Int32) : Prop := x ≠ -1 ∧ A 3 (kr_ix x) ≠ 0 ∧ A 3 (kr_ix x) ≤ ld
def kr_fm (A : Nat → Nat → Int32) (ld : Int32) : Nat → Int32 → Int32
  | 0, x => x
  | f + 1, x => if kr_go A ld x then kr_fm A ld f (A 4 (kr_ix x)) else x
def kr_sp (A : Nat → Nat → Int32) (ld : Int32) : Nat → Int32 → Nat
  | 0, _ => 0
  | f + 1, x => if kr_go A ld x then kr_sp A ld f (A 4 (kr_ix x)) + 1 else 0
def kr_fa (A : Nat → Nat → Int32) : Nat → Int32 → Int32 → Int32
  | 0, _, g => g
  | f + 1, x, g => if x = -1 then g else if A 3 (kr_ix x) = 0 then 0 else kr_fa A f (A 4 (kr_ix x)) (kr_mx g (A 3 (kr_ix x)))
def kr_st (A : Nat → Nat → Int32) (l p : Nat) (x : Int32) : Int32 := (if p = 0 then A 7 (5 * l + p) else kr_mn (A 7 (5 * l + p)) (A 7 (5 * l + p - 1))) * A 1 (kr_ix x) / 100
def kr_en (A : Nat → Nat → Int32) (x : Int32) : Int32 := if A 3 (kr_ix x) = 0 then 999 else A 3 (kr_ix x) - 1
def kr_lh (A : Nat → Nat → Int32) (g : Int32 → Int32) : Nat → Int32 → Int32 → Int32
  | 0, _, h => h
  | f + 1, x, h => if x = -1 then h else if h < kr_en A x then (if g x < kr_en A x then kr_mx h (g x) else kr_lh A g f (A 4 (kr_ix x)) (kr_en A x)) else kr_lh A g f (A 4 (kr_ix x)) h
abbrev kr_ph (A : Nat → Nat → Int32) (l : Nat) (ld : Int32) (p : Nat) : Prop := kr_fm A ld 16 (A 6 (5 * l + p)) ≠ -1 ∧ ld ≤ kr_st A l p (kr_fm A ld 16 (A 6 (5 * l + p)))
def kr_fg (A : Nat → Nat → Int32) (l : Nat) (ld : Int32) : Nat → Nat → Int32
  | 0, _ => -1
  | n + 1, p => if kr_ph A l ld p then kr_fg A l ld n (p + 1) else nI p
def kr_rc (A : Nat → Nat → Int32) (l : Nat) : Nat := kr_ix (A 5 l)
def kr_gw (A : Nat → Nat → Int32) (l : Nat) (ld : Int32) : Int32 := kr_fg A l ld (kr_rc A l) 0
def kr_lw (A : Nat → Nat → Int32) (l : Nat) (q kn : Int32) : Nat → Nat → Int32 → Int32
  | 0, _, c => c
  | n + 1, p, c => kr_lw A l q kn n (p + 1) (kr_mn c (kr_lh A (kr_st A l p) 16 (if nI p = q then kn else A 6 (5 * l + p)) 0))
def kr_lu (A : Nat → Nat → Int32) (l : Nat) (q kn : Int32) : Int32 := if A 5 l = 0 then 0 else kr_lw A l q kn (kr_rc A l) 0 999
def kr_uw (A : Nat → Nat → Int32) (l : Nat) : Nat → Nat → Int32 → Int32
  | 0, _, c => c
  | n + 1, p, c => kr_uw A l n (p + 1) (kr_mn c (kr_lh A (kr_st A l p) 16 (A 6 (5 * l + p)) 0))
def kr_hu (A : Nat → Nat → Int32) (l : Nat) : Int32 := kr_uw A l (kr_rc A l) 0 (if A 5 l = 0 then 0 else 999)
abbrev kr_ia (A : Nat → Nat → Int32) (j k : Nat) : Prop := if A 1 j = A 1 k then (if A 2 j = A 2 k then j < k else A 2 j < A 2 k) else A 1 k < A 1 j
abbrev kr_ah (A : Nat → Nat → Int32) (j k : Nat) : Prop := A 0 j = A 0 k ∧ kr_ia A j k
def kr_rk (A : Nat → Nat → Int32) (k : Nat) : Nat → Nat
  | 0 => 0
  | n + 1 => kr_rk A k n + (if kr_ah A n k then 1 else 0)
def kr_kw (A : Nat → Nat → Int32) (N : Nat) (kd rk : Int32) : Nat → Nat → Int32
  | 0, _ => -1
  | n + 1, k => if A 0 k = kd ∧ nI (kr_rk A k N) = rk then nI k else kr_kw A N kd rk n (k + 1)
def kr_cn (A : Nat → Nat → Int32) (kd : Int32) : Nat → Nat
  | 0 => 0
  | n + 1 => kr_cn A kd n + (if A 0 n = kd then 1 else 0)
def kr_nw (A : Nat → Nat → Int32) (l p : Nat) : Int32 := kr_st A l p (A 6 (5 * l + p))
def kr_wk (A : Nat → Nat → Int32) (l : Nat) : Nat → Nat → Int32 → Int32
  | 0, _, b => b
  | n + 1, p, b => kr_wk A l n (p + 1) (if b = -1 ∨ kr_nw A l p < kr_nw A l (kr_ix b) then nI p else b)
def kr_sg (A : Nat → Nat → Int32) : Nat → Nat → Int32 → Int32
  | 0, _, b => b
  | n + 1, l, b => kr_sg A n (l + 1) (if b = -1 ∨ kr_hu A (kr_ix b) < kr_hu A l then nI l else b)
def kr_sm (A : Nat → Nat → Int32) : Nat → Int32
  | 0 => 0
  | n + 1 => kr_sm A n + A 1 n
def kr_me (N : Nat) (A : Nat → Nat → Int32) : UInt64 := if N = 0 then 0 else FP.ddiv (FP.i2d (kr_sm A N)) (FP.i2d (nI N))
def kr_dw (d : Int64) (x : Int32) : Int64 := d * 31 + x.toInt64
def kr_dk (A : Nat → Nat → Int32) (N : Nat) (d : Int64) (k : Nat) : Int64 := kr_dw (kr_dw (kr_dw (kr_dw (kr_dw (kr_dw (kr_dw d (A 0 k)) (A 1 k)) (A 2 k)) (A 3 k)) (A 4 k)) (nI (kr_rk A k N))) (kr_fa A 16 (nI k) 0)
def kr_dp (A : Nat → Nat → Int32) (l : Nat) : Nat → Nat → Int64 → Int64
  | 0, _, d => d
  | n + 1, p, d => kr_dp A l n (p + 1) (kr_dw (kr_dw d (A 6 (5 * l + p))) (kr_nw A l p))
def kr_dl (A : Nat → Nat → Int32) (d : Int64) (l : Nat) : Int64 := kr_dp A l (kr_rc A l) 0 (kr_dw (kr_dw (kr_dw d (A 5 l)) (kr_hu A l)) (kr_wk A l (kr_rc A l) 0 (-1)))
def kr_dks (A : Nat → Nat → Int32) (N : Nat) : Nat → Nat → Int64 → Int64
  | 0, _, d => d
  | n + 1, k, d => kr_dks A N n (k + 1) (kr_dk A N d k)
def kr_dls (A : Nat → Nat → Int32) : Nat → Nat → Int64 → Int64
  | 0, _, d => d
  | n + 1, l, d => kr_dls A n (l + 1) (kr_dl A d l)
def kr_dg (N L : Nat) (A : Nat → Nat → Int32) : Int64 := kr_dls A L 0 (kr_dks A N N 0 (kr_dw (kr_dw (kr_dw 2063 (nI N)) (nI L)) (kr_sg A L 0 (-1))))
/-- a knot or none -/
abbrev kr_kn (N : Nat) (x : Int32) : Prop := x = -1 ∨ ∃ j, j < N ∧ x = nI j
/-- the rows are in order -/
def kr_wf (N L : Nat) (A : Nat → Nat → Int32) : Prop := N ≤ 16 ∧ L ≤ 6 ∧
  (∀ k, k < N → (A 0 k = 0 ∨ A 0 k = 1) ∧ (A 4 k = -1 ∨ ∃ j, j < k ∧ A 4 k = nI j) ∧ (∃ q, q ≤ 999 ∧ A 3 k = nI q) ∧ (A 3 k = 0 → A 4 k = -1)) ∧
  (∀ l, l < L → ∃ r, r ≤ 5 ∧ A 5 l = nI r ∧ ∀ p, p < r → ∃ k, k < N ∧ A 6 (5 * l + p) = nI k)
section KRS
variable {N L : Nat} {A : Nat → Nat → Int32}
theorem kr_wf.kn (h : kr_wf N L A) {k : Nat} (hk : k < N) : kr_kn N (A 4 k) := by
  rcases (h.2.2.1 k hk).2.1 with e | ⟨j, hj, e⟩
  · exact Or.inl e
  · exact Or.inr ⟨j, by omega, e⟩
theorem kr_wf.rc (h : kr_wf N L A) {l : Nat} (hl : l < L) : kr_rc A l ≤ 5 ∧ A 5 l = nI (kr_rc A l) := by
  obtain ⟨r, h1, h2, -⟩ := h.2.2.2 l hl
  have e : kr_rc A l = r := by unfold kr_rc; rw [h2, kr_ix_nI (by omega)]
  rw [e]; exact ⟨h1, h2⟩
theorem kr_wf.tk (h : kr_wf N L A) {l p : Nat} (hl : l < L) (hp : p < kr_rc A l) : ∃ k, k < N ∧ A 6 (5 * l + p) = nI k := by
  obtain ⟨r, h1, h2, h3⟩ := h.2.2.2 l hl
  have e : kr_rc A l = r := by unfold kr_rc; rw [h2, kr_ix_nI (by omega)]
  exact h3 p (by omega)
theorem kr_wf.tn (h : kr_wf N L A) {l p : Nat} (hl : l < L) (hp : p < kr_rc A l) : kr_kn N (A 6 (5 * l + p)) := Or.inr (h.tk hl hp)
theorem kr_kn_ne {j : Nat} (h : j < 2 ^ 31) : nI j ≠ -1 := by
  intro e
  have h1 := nI_toInt h
  rw [e] at h1
  have h2 : (-1 : Int32).toInt = -1 := by decide
  omega
theorem kr_if0 {P : Prop} [Decidable P] (h : (if P then (1 : Int32) else 0) = 0) : ¬ P := by
  intro hp; rw [if_pos hp] at h; exact absurd h (by decide)
theorem kr_if1 {P : Prop} [Decidable P] (h : ¬ (if P then (1 : Int32) else 0) = 0) : P := by
  refine Decidable.byContradiction (fun hp => h ?_); rw [if_neg hp]
theorem kr_b01 {P : Prop} [Decidable P] : (if P then (1 : Int32) else 0) = 0 ∨ (if P then (1 : Int32) else 0) = 1 := by
  by_cases h : P
  · right; rw [if_pos h]
  · left; rw [if_neg h]
theorem kr_lt {a b : Nat} (ha : a < 2 ^ 31) (hb : b < 2 ^ 31) (h : ¬ nI b ≤ nI a) : a < b := by
  rcases Nat.lt_or_ge a b with q | q
  · exact q
  · exact absurd (nI_le q ha) h
theorem kr_ge {a b : Nat} (ha : a < 2 ^ 31) (hb : b < 2 ^ 31) (h : nI b ≤ nI a) : b ≤ a := (nI_leI hb ha).mp h
end KRS
section KRT
variable {N : Nat} {x y : Int32}
theorem kr_isK (hN : N ≤ 16) (h : kr_kn N x) (hx : ¬ x < 0 ∧ ¬ nI N ≤ x) : ∃ j, j < N ∧ x = nI j := by
  rcases h with rfl | h
  · exact absurd (by decide) hx.1
  · exact h
theorem kr_isK2 (hN : N ≤ 16) (h : kr_kn N x) (hx : x ≠ -1) : ¬ x < 0 ∧ ¬ nI N ≤ x := by
  rcases h with rfl | ⟨j, hj, rfl⟩
  · exact absurd rfl hx
  · exact ⟨nI_pos (by omega), nI_ge hj (by omega)⟩
theorem kr_ngt (h : y < x) : ¬ x ≤ y := Int32.not_le.mpr h
theorem kr_nlt (h : ¬ y < x) : x ≤ y := Int32.not_lt.mp h
end KRT
section KRU
variable {N L : Nat} {A : Nat → Nat → Int32} {ld x : Int32} {i j k n : Nat}
theorem kr_go_nI (h : j < 2 ^ 31) : kr_go A ld (nI j) ↔ A 3 j ≠ 0 ∧ A 3 j ≤ ld := by
  unfold kr_go; rw [kr_ix_nI h]; exact ⟨fun q => q.2, fun q => ⟨kr_kn_ne h, q⟩⟩
theorem kr_go_kn (hN : N ≤ 16) (h : kr_kn N x) (hg : kr_go A ld x) : ∃ j, j < N ∧ x = nI j := by
  rcases h with rfl | h
  · exact absurd rfl hg.1
  · exact h
theorem kr_fm_no (hg : ¬ kr_go A ld x) : ∀ n, kr_fm A ld n x = x
  | 0 => rfl
  | n + 1 => if_neg hg
theorem kr_fm_go (hi : i < 16) (hj : j < 2 ^ 31) (hg : kr_go A ld (nI j)) : kr_fm A ld (16 - i) (nI j) = kr_fm A ld (16 - (i + 1)) (A 4 j) := by
  obtain ⟨n, h1, h2⟩ : ∃ n, 16 - i = n + 1 ∧ 16 - (i + 1) = n := ⟨16 - (i + 1), by omega, rfl⟩
  rw [h1, h2]; show (if _ then _ else _) = _; rw [if_pos hg, kr_ix_nI hj]
theorem kr_sp_no (hg : ¬ kr_go A ld x) : ∀ n, kr_sp A ld n x = 0
  | 0 => rfl
  | n + 1 => if_neg hg
theorem kr_sp_go (hi : i < 16) (hj : j < 2 ^ 31) (hg : kr_go A ld (nI j)) : kr_sp A ld (16 - i) (nI j) = kr_sp A ld (16 - (i + 1)) (A 4 j) + 1 := by
  obtain ⟨n, h1, h2⟩ : ∃ n, 16 - i = n + 1 ∧ 16 - (i + 1) = n := ⟨16 - (i + 1), by omega, rfl⟩
  rw [h1, h2]; show (if _ then _ else _) = _; rw [if_pos hg, kr_ix_nI hj]
theorem kr_fa_no {g : Int32} : ∀ n, kr_fa A n (-1) g = g
  | 0 => rfl
  | n + 1 => if_pos rfl
theorem kr_fa_0 {g : Int32} (hi : i < 16) (hj : j < 2 ^ 31) (h0 : A 3 j = 0) : kr_fa A (16 - i) (nI j) g = 0 := by
  obtain ⟨n, h1⟩ : ∃ n, 16 - i = n + 1 := ⟨16 - (i + 1), by omega⟩
  rw [h1]; show (if _ then _ else _) = _; rw [if_neg (kr_kn_ne hj), kr_ix_nI hj, if_pos h0]
theorem kr_fa_s {g : Int32} (hi : i < 16) (hj : j < 2 ^ 31) (h0 : ¬ A 3 j = 0) : kr_fa A (16 - i) (nI j) g = kr_fa A (16 - (i + 1)) (A 4 j) (kr_mx g (A 3 j)) := by
  obtain ⟨n, h1, h2⟩ : ∃ n, 16 - i = n + 1 ∧ 16 - (i + 1) = n := ⟨16 - (i + 1), by omega, rfl⟩
  rw [h1, h2]; show (if _ then _ else _) = _; rw [if_neg (kr_kn_ne hj), kr_ix_nI hj, if_neg h0]
theorem kr_isK3 (hN : N ≤ 16) (h : kr_kn N x) (hx : ¬ (¬ x < 0 ∧ ¬ nI N ≤ x)) : x = -1 := Decidable.byContradiction (fun q => hx (kr_isK2 hN h q))
theorem kr_en_nI (hj : j < 2 ^ 31) : kr_en A (nI j) = if A 3 j = 0 then 999 else A 3 j - 1 := by unfold kr_en; rw [kr_ix_nI hj]
theorem kr_lh_no {g : Int32 → Int32} {h : Int32} : ∀ n, kr_lh A g n (-1) h = h
  | 0 => rfl
  | n + 1 => if_pos rfl
theorem kr_lh_s {g : Int32 → Int32} {h : Int32} (hi : i < 16) (hj : j < 2 ^ 31) : kr_lh A g (16 - i) (nI j) h = if h < kr_en A (nI j) then (if g (nI j) < kr_en A (nI j) then kr_mx h (g (nI j)) else kr_lh A g (16 - (i + 1)) (A 4 j) (kr_en A (nI j))) else kr_lh A g (16 - (i + 1)) (A 4 j) h := by
  obtain ⟨n, h1, h2⟩ : ∃ n, 16 - i = n + 1 ∧ 16 - (i + 1) = n := ⟨16 - (i + 1), by omega, rfl⟩
  rw [h1, h2]; show (if _ then _ else _) = _; rw [if_neg (kr_kn_ne hj), kr_ix_nI hj]
theorem kr_fm_kn (hw : kr_wf N L A) : ∀ (n : Nat) (x : Int32), kr_kn N x → kr_kn N (kr_fm A ld n x)
  | 0, x, h => h
  | n + 1, x, h => by
    show kr_kn N (if _ then _ else _)
    by_cases hg : kr_go A ld x
    · rw [if_pos hg]
      obtain ⟨j, hj, rfl⟩ := kr_go_kn hw.1 h hg
      have := hw.1
      rw [kr_ix_nI (by omega)]
      exact kr_fm_kn hw n _ (hw.kn hj)
    · rw [if_neg hg]; exact h
theorem kr_kn_of (hN : N ≤ 16) (h : kr_kn N x) (hx : x ≠ -1) : ∃ j, j < N ∧ x = nI j := by
  rcases h with rfl | h
  · exact absurd rfl hx
  · exact h
theorem kr_st_0 {pl : Nat} (h : pl = 0) (hk : k < 2 ^ 31) : kr_st A n pl (nI k) = A 7 (5 * n + pl) * A 1 k / 100 := by unfold kr_st; rw [if_pos h, kr_ix_nI hk]
theorem kr_st_s {pl : Nat} (h : ¬ pl = 0) (hk : k < 2 ^ 31) : kr_st A n pl (nI k) = kr_mn (A 7 (5 * n + pl)) (A 7 (5 * n + pl - 1)) * A 1 k / 100 := by unfold kr_st; rw [if_neg h, kr_ix_nI hk]
theorem kr_fg_no {n pl q : Nat} (h : ¬ kr_ph A q ld pl) (hn : pl < n) : kr_fg A q ld (n - pl) pl = nI pl := by
  obtain ⟨m, h1⟩ : ∃ m, n - pl = m + 1 := ⟨n - (pl + 1), by omega⟩
  rw [h1]; exact if_neg h
theorem kr_fg_s {n pl q : Nat} (h : kr_ph A q ld pl) (hn : pl < n) : kr_fg A q ld (n - pl) pl = kr_fg A q ld (n - (pl + 1)) (pl + 1) := by
  obtain ⟨m, h1, h2⟩ : ∃ m, n - pl = m + 1 ∧ n - (pl + 1) = m := ⟨n - (pl + 1), by omega, rfl⟩
  rw [h1, h2]; exact if_pos h
theorem kr_lw_s {n pl q : Nat} {z kn g : Int32} (hn : pl < n) : kr_lw A q z kn (n - pl) pl g = kr_lw A q z kn (n - (pl + 1)) (pl + 1) (kr_mn g (kr_lh A (kr_st A q pl) 16 (if nI pl = z then kn else A 6 (5 * q + pl)) 0)) := by
  obtain ⟨m, h1, h2⟩ : ∃ m, n - pl = m + 1 ∧ n - (pl + 1) = m := ⟨n - (pl + 1), by omega, rfl⟩
  rw [h1, h2]; rfl
theorem kr_cn_s {kd : Int32} : kr_cn A kd (n + 1) = kr_cn A kd n + (if A 0 n = kd then 1 else 0) := rfl
theorem kr_rk_s : kr_rk A k (n + 1) = kr_rk A k n + (if kr_ah A n k then 1 else 0) := rfl
theorem kr_cn_le {kd : Int32} : ∀ n, kr_cn A kd n ≤ n
  | 0 => Nat.le_refl _
  | n + 1 => by have := kr_cn_le (kd := kd) n; rw [kr_cn_s]; split <;> omega
theorem kr_rk_le : ∀ n, kr_rk A k n ≤ n
  | 0 => Nat.le_refl _
  | n + 1 => by have := kr_rk_le n; rw [kr_rk_s]; split <;> omega
theorem kr_kw_s {kd rk : Int32} {n pl : Nat} (hn : pl < n) (h : ¬ (A 0 pl = kd ∧ nI (kr_rk A pl N) = rk)) : kr_kw A N kd rk (n - pl) pl = kr_kw A N kd rk (n - (pl + 1)) (pl + 1) := by
  obtain ⟨m, h1, h2⟩ : ∃ m, n - pl = m + 1 ∧ n - (pl + 1) = m := ⟨n - (pl + 1), by omega, rfl⟩
  rw [h1, h2]; exact if_neg h
theorem kr_kw_y {kd rk : Int32} {n pl : Nat} (hn : pl < n) (h : A 0 pl = kd ∧ nI (kr_rk A pl N) = rk) : kr_kw A N kd rk (n - pl) pl = nI pl := by
  obtain ⟨m, h1⟩ : ∃ m, n - pl = m + 1 := ⟨n - (pl + 1), by omega⟩
  rw [h1]; exact if_pos h
theorem kr_kw_kn {kd rk : Int32} : ∀ (n pl : Nat), pl + n ≤ N → kr_kn N (kr_kw A N kd rk n pl)
  | 0, _, _ => Or.inl rfl
  | n + 1, pl, h => by
    show kr_kn N (if _ then _ else _)
    split
    · exact Or.inr ⟨pl, by omega, rfl⟩
    · exact kr_kw_kn n (pl + 1) (by omega)
end KRU
theorem kr_ngt2 {x y : Int32} (h : x ≤ y) : ¬ y < x := Int32.not_lt.mpr h
theorem kr_nle2 {x y : Int32} (h : ¬ x ≤ y) : y < x := Int32.not_le.mp h
theorem kr_d100 (x : Int32) : x / 100 < 2147483647 := by
  have key : ∀ y : Int, 0 ≤ y → y ≤ 2147483648 → y.tdiv 100 ≤ 21474836 ∧ 0 ≤ y.tdiv 100 := fun y h1 h2 => by rw [Int.tdiv_eq_ediv_of_nonneg h1]; omega
  rw [Int32.lt_iff_toInt_lt, Int32.toInt_div, show (100 : Int32).toInt = 100 by decide, show (2147483647 : Int32).toInt = 2147483647 by decide]
  have h1 := Int32.toInt_lt x
  have h2 := Int32.le_toInt x
  rcases Int.le_total 0 x.toInt with h | h
  · have := key x.toInt h (by omega)
    rw [Int.bmod_eq_of_le (by omega) (by omega)]; omega
  · have e : x.toInt.tdiv 100 = -((-x.toInt).tdiv 100) := by rw [Int.neg_tdiv]; omega
    have := key (-x.toInt) (by omega) (by omega)
    rw [e, Int.bmod_eq_of_le (by omega) (by omega)]; omega
section KRV
variable {N L : Nat} {A : Nat → Nat → Int32}
theorem kr_nw_lt (q pl : Nat) : kr_nw A q pl < 2147483647 := kr_d100 _
theorem kr_lw_uw (q : Nat) : ∀ (n pl : Nat) (c : Int32), pl + n < 2 ^ 31 → kr_lw A q (-1) (-1) n pl c = kr_uw A q n pl c
  | 0, _, _, _ => rfl
  | n + 1, pl, c, h => by
    show kr_lw A q (-1) (-1) n (pl + 1) _ = kr_uw A q n (pl + 1) _
    rw [if_neg (kr_kn_ne (by omega))]
    exact kr_lw_uw q n (pl + 1) _ (by omega)
theorem kr_lu_hu (q : Nat) (h : kr_rc A q ≤ 5) : kr_lu A q (-1) (-1) = kr_hu A q := by
  unfold kr_lu kr_hu
  by_cases h0 : A 5 q = 0
  · have hr : kr_rc A q = 0 := by unfold kr_rc; rw [h0]; decide
    rw [if_pos h0, if_pos h0, hr]; rfl
  · rw [if_neg h0, if_neg h0]; exact kr_lw_uw q _ 0 _ (by omega)
theorem kr_mx_nn {x y : Int32} (h : 0 ≤ x) : 0 ≤ kr_mx x y := by
  unfold kr_mx; split
  · next h1 => exact Int32.le_trans h (Int32.le_of_lt h1)
  · exact h
theorem kr_mn_nn {x y : Int32} (h : 0 ≤ x) (h2 : 0 ≤ y) : 0 ≤ kr_mn x y := by unfold kr_mn; split <;> assumption
theorem kr_lh_nn {g : Int32 → Int32} : ∀ (n : Nat) (x h : Int32), 0 ≤ h → 0 ≤ kr_lh A g n x h
  | 0, _, _, h0 => h0
  | n + 1, x, h, h0 => by
    rw [kr_lh]
    split
    · exact h0
    · split
      · next h1 =>
        split
        · exact kr_mx_nn h0
        · exact kr_lh_nn n _ _ (Int32.le_trans h0 (Int32.le_of_lt h1))
      · exact kr_lh_nn n _ _ h0
theorem kr_uw_nn (q : Nat) : ∀ (n pl : Nat) (c : Int32), 0 ≤ c → 0 ≤ kr_uw A q n pl c
  | 0, _, _, h => h
  | n + 1, pl, c, h => kr_uw_nn q n (pl + 1) _ (kr_mn_nn h (kr_lh_nn _ _ _ (by decide)))
theorem kr_hu_nn (q : Nat) : ¬ kr_hu A q ≤ -1 := by
  have h : (0 : Int32) ≤ kr_hu A q := kr_uw_nn q _ _ _ (by split <;> decide)
  intro h2
  exact absurd (Int32.le_trans h h2) (by decide)
theorem kr_wk_s {n pl q : Nat} {b : Int32} (hn : pl < n) : kr_wk A q (n - pl) pl b = kr_wk A q (n - (pl + 1)) (pl + 1) (if b = -1 ∨ kr_nw A q pl < kr_nw A q (kr_ix b) then nI pl else b) := by
  obtain ⟨m, h1, h2⟩ : ∃ m, n - pl = m + 1 ∧ n - (pl + 1) = m := ⟨n - (pl + 1), by omega, rfl⟩
  rw [h1, h2]; rfl
theorem kr_sg_s {n q : Nat} {b : Int32} (hn : q < n) : kr_sg A (n - q) q b = kr_sg A (n - (q + 1)) (q + 1) (if b = -1 ∨ kr_hu A (kr_ix b) < kr_hu A q then nI q else b) := by
  obtain ⟨m, h1, h2⟩ : ∃ m, n - q = m + 1 ∧ n - (q + 1) = m := ⟨n - (q + 1), by omega, rfl⟩
  rw [h1, h2]; rfl
theorem kr_dp_s {n pl q : Nat} {d : Int64} (hn : pl < n) : kr_dp A q (n - pl) pl d = kr_dp A q (n - (pl + 1)) (pl + 1) (kr_dw (kr_dw d (A 6 (5 * q + pl))) (kr_nw A q pl)) := by
  obtain ⟨m, h1, h2⟩ : ∃ m, n - pl = m + 1 ∧ n - (pl + 1) = m := ⟨n - (pl + 1), by omega, rfl⟩
  rw [h1, h2]; rfl
theorem kr_dks_s {n k : Nat} {d : Int64} (hn : k < n) : kr_dks A N (n - k) k d = kr_dks A N (n - (k + 1)) (k + 1) (kr_dk A N d k) := by
  obtain ⟨m, h1, h2⟩ : ∃ m, n - k = m + 1 ∧ n - (k + 1) = m := ⟨n - (k + 1), by omega, rfl⟩
  rw [h1, h2]; rfl
theorem kr_dls_s {n k : Nat} {d : Int64} (hn : k < n) : kr_dls A (n - k) k d = kr_dls A (n - (k + 1)) (k + 1) (kr_dl A d k) := by
  obtain ⟨m, h1, h2⟩ : ∃ m, n - k = m + 1 ∧ n - (k + 1) = m := ⟨n - (k + 1), by omega, rfl⟩
  rw [h1, h2]; rfl
end KRV
def kr_bs (A : Nat → Nat → Int32) (N q : Nat) (z0 kd : Int32) : Nat → Nat → Int32 → Int32 → Int32
  | 0, _, b, _ => b
  | n + 1, r, b, g => if g < kr_lu A q z0 (kr_kw A N kd (nI r) N 0) then kr_bs A N q z0 kd n (r + 1) (kr_kw A N kd (nI r) N 0) (kr_lu A q z0 (kr_kw A N kd (nI r) N 0)) else kr_bs A N q z0 kd n (r + 1) b g
def kr_kd (pl : Nat) : Int32 := if nI pl = 0 then 1 else 0
def kr_bk (A : Nat → Nat → Int32) (N q pl : Nat) : Int32 := kr_bs A N q (nI pl) (kr_kd pl) (kr_cn A (kr_kd pl) N) 0 (-1) (-1)
theorem kr_bs_s {A : Nat → Nat → Int32} {N q n r : Nat} {z0 kd b g : Int32} (hn : r < n) : kr_bs A N q z0 kd (n - r) r b g = if g < kr_lu A q z0 (kr_kw A N kd (nI r) N 0) then kr_bs A N q z0 kd (n - (r + 1)) (r + 1) (kr_kw A N kd (nI r) N 0) (kr_lu A q z0 (kr_kw A N kd (nI r) N 0)) else kr_bs A N q z0 kd (n - (r + 1)) (r + 1) b g := by
  obtain ⟨m, h1, h2⟩ : ∃ m, n - r = m + 1 ∧ n - (r + 1) = m := ⟨n - (r + 1), by omega, rfl⟩
  rw [h1, h2]; rfl
end
section
set_option maxHeartbeats 4000000 in
set_option maxRecDepth 100000 in
theorem c_X0_slot (l : Launch) (q pl : Nat) : Met l yX0_slot (Cond.code yX0_slot cX0_slot 2 (some .int) :: kr_all) ({ frames := 0, cells := 0, slots := 0, locals := 0 }) (va_Pc [.int (nI q), .int (nI pl)] (fun _ => True)) (vp_Si (fun r => r = nI (5 * q + pl))) 0 0 (fun _ => False) := by
  refine kr_of (by decide) (Nat.le_of_ble_eq_true rfl) ?_
  intro p e s m below meth c ls hx hb hml hr hts hown hlocks hin hv hl
  have hown : s.vm.findClass RX0 = some m.cls := hown
  have hl : lv_has ls 2 [(0, .int (nI q)), (1, .int (nI pl))] := hl
  refine lv_iload_n hx hb dX0_slot_0 rfl (lv_at hl 0 rfl) ?_
  refine lv_iconst (v := 5) hx hb dX0_slot_1 (by decide) ?_
  refine kr_imulN hx hb q 5 dX0_slot_2 ?_
  refine lv_iload_n hx hb dX0_slot_3 rfl (lv_at hl 1 rfl) ?_
  refine kr_iaddN hx hb (q * 5) pl dX0_slot_4 ?_
  exact kr_eI hx hb hr hlocks rfl (by rw [Nat.mul_comm]) dX0_slot_5
set_option maxHeartbeats 4000000 in
set_option maxRecDepth 100000 in
theorem c_X0_kindDueAt (l : Launch) (x : Int32) : Met l yX0_kindDueAt (Cond.code yX0_kindDueAt cX0_kindDueAt 1 (some .int) :: kr_all) ({ frames := 0, cells := 0, slots := 0, locals := 0 }) (va_Pc [.int x] (fun _ => True)) (vp_Si (fun r => r = if x = 0 then 1 else 0)) 0 0 (fun _ => False) := by
  refine kr_of (by decide) (Nat.le_of_ble_eq_true rfl) ?_
  intro p e s m below meth c ls hx hb hml hr hts hown hlocks hin hv hl
  have hown : s.vm.findClass RX0 = some m.cls := hown
  have hl : lv_has ls 1 [(0, .int x)] := hl
  refine lv_iload_n hx hb dX0_kindDueAt_0 rfl (lv_at hl 0 rfl) ?_
  refine lv_if_ne (tgt := 8) hx hb dX0_kindDueAt_1 (by decide) (fun c1 => ?_) (fun c1 => ?_)
  · refine lv_iconst (v := 0) hx hb dX0_kindDueAt_8 (by decide) ?_
    exact kr_eI hx hb hr hlocks rfl (if_neg c1).symm dX0_kindDueAt_9
  · refine lv_iconst (v := 1) hx hb dX0_kindDueAt_4 (by decide) ?_
    refine lv_goto (tgt := 9) hx hb dX0_kindDueAt_5 (by decide) ?_
    exact kr_eI hx hb hr hlocks rfl (if_pos c1).symm dX0_kindDueAt_9
set_option maxHeartbeats 4000000 in
set_option maxRecDepth 100000 in
theorem c_X0_isGone (l : Launch) (D : va_G) (cy : ClassId) (h : Nat) (a : Nat → Nat) (N L : Nat) (A : Nat → Nat → Int32) (q : Nat) (hq : q < 6) : Met l yX0_isGone (Cond.code yX0_isGone cX0_isGone 2 (some .boolean) :: kr_all) ({ frames := 0, cells := 0, slots := 0, locals := 0 }) (va_Pc [.ref h, .int (nI q)] (kr_R D (kr_W0 cy h a N L A) cy)) (vp_Si (fun r => r = if A 5 q = 0 then 1 else 0)) 0 0 (fun _ => False) := by
  refine kr_of (by decide) (Nat.le_of_ble_eq_true rfl) ?_
  intro p e s m below meth c ls hx hb hml hr hts hown hlocks hin hv hl
  obtain ⟨hP, hK⟩ := hv
  have hown : s.vm.findClass RX0 = some m.cls := hown
  have hl : lv_has ls 2 [(0, .ref h), (1, .int (nI q))] := hl
  refine lv_aload_n hx hb dX0_isGone_0 rfl (lv_at hl 0 rfl) ?_
  refine va_get (ci := 0) (v := .ref (a 5)) (C := RX0) (T := TX0) (N := 10) hx hb hts kr_wsX0 hown hK hP 0 rfl rfl 6 (by decide) (hts _ kq_48) (fun _ h9 => h9) rfl dX0_isGone_1 ?_
  refine lv_iload_n hx hb dX0_isGone_4 rfl (lv_at hl 1 rfl) ?_
  refine kr_ald hx hb hK hP 6 0 rfl rfl q (by omega) (by decide) dX0_isGone_5 ?_
  refine lv_if_ne (tgt := 13) hx hb dX0_isGone_6 (by decide) (fun c6 => ?_) (fun c6 => ?_)
  · refine lv_iconst (v := 0) hx hb dX0_isGone_13 (by decide) ?_
    exact kr_eZ hx hb hr hlocks rfl (Or.inl rfl) (if_neg c6).symm dX0_isGone_14
  · refine lv_iconst (v := 1) hx hb dX0_isGone_9 (by decide) ?_
    refine lv_goto (tgt := 14) hx hb dX0_isGone_10 (by decide) ?_
    exact kr_eZ hx hb hr hlocks rfl (Or.inr rfl) (if_pos c6).symm dX0_isGone_14
set_option maxHeartbeats 4000000 in
set_option maxRecDepth 100000 in
theorem c_X0_isKnot (l : Launch) (D : va_G) (cy : ClassId) (h : Nat) (a : Nat → Nat) (N L : Nat) (A : Nat → Nat → Int32) (x : Int32) : Met l yX0_isKnot (Cond.code yX0_isKnot cX0_isKnot 2 (some .boolean) :: kr_all) ({ frames := 0, cells := 0, slots := 0, locals := 0 }) (va_Pc [.ref h, .int x] (kr_R D (kr_W0 cy h a N L A) cy)) (vp_Si (fun r => r = if ¬ x < 0 ∧ ¬ nI N ≤ x then 1 else 0)) 0 0 (fun _ => False) := by
  refine kr_of (by decide) (Nat.le_of_ble_eq_true rfl) ?_
  intro p e s m below meth c ls hx hb hml hr hts hown hlocks hin hv hl
  obtain ⟨hP, hK⟩ := hv
  have hown : s.vm.findClass RX0 = some m.cls := hown
  have hl : lv_has ls 2 [(0, .ref h), (1, .int x)] := hl
  refine lv_iload_n hx hb dX0_isKnot_0 rfl (lv_at hl 1 rfl) ?_
  refine lv_if_lt (tgt := 16) hx hb dX0_isKnot_1 (by decide) (fun c1 => ?_) (fun c1 => ?_)
  · refine lv_iconst (v := 0) hx hb dX0_isKnot_16 (by decide) ?_
    exact kr_eZ hx hb hr hlocks rfl (Or.inl rfl) (if_neg (fun q => q.1 c1)).symm dX0_isKnot_17
  · refine lv_iload_n hx hb dX0_isKnot_4 rfl (lv_at hl 1 rfl) ?_
    refine lv_aload_n hx hb dX0_isKnot_5 rfl (lv_at hl 0 rfl) ?_
    refine va_get (ci := 0) (v := .int (nI N)) (C := RX0) (T := TX0) (N := 10) hx hb hts kr_wsX0 hown hK hP 0 rfl rfl 5 (by decide) (hts _ kq_47) (fun _ h9 => h9) rfl dX0_isKnot_6 ?_
    refine lv_icmp_ge (tgt := 16) hx hb dX0_isKnot_9 (by decide) (fun c9 => ?_) (fun c9 => ?_)
    · refine lv_iconst (v := 0) hx hb dX0_isKnot_16 (by decide) ?_
      exact kr_eZ hx hb hr hlocks rfl (Or.inl rfl) (if_neg (fun q => q.2 c9)).symm dX0_isKnot_17
    · refine lv_iconst (v := 1) hx hb dX0_isKnot_12 (by decide) ?_
      refine lv_goto (tgt := 17) hx hb dX0_isKnot_13 (by decide) ?_
      exact kr_eZ hx hb hr hlocks rfl (Or.inr rfl) (if_pos ⟨c1, c9⟩).symm dX0_isKnot_17
theorem kg_RX0_125 : GoodIn kr_all (wsV RX0 125 RX0 yX0_isKnot (Cond.code yX0_isKnot cX0_isKnot 2 (some .boolean) :: kr_all)) := kr_gV kq_159 kq_161 kq_4 kq_25 kq_162
set_option maxHeartbeats 4000000 in
set_option maxRecDepth 100000 in
theorem c_X0_spillsUnder (l : Launch) (D : va_G) (cy : ClassId) (h : Nat) (a : Nat → Nat) (N L : Nat) (A : Nat → Nat → Int32) (x ld : Int32) (hN : N ≤ 16) (hx0 : kr_kn N x) : Met l yX0_spillsUnder (Cond.code yX0_spillsUnder cX0_spillsUnder 3 (some .boolean) :: kr_all) ({ frames := 1, cells := 0, slots := 0, locals := 21 }) (va_Pc [.ref h, .int x, .int ld] (kr_R D (kr_W0 cy h a N L A) cy)) (vp_Si (fun r => r = if kr_go A ld x then 1 else 0)) 0 0 (fun _ => False) := by
  refine kr_of (by decide) (Nat.le_of_ble_eq_true rfl) ?_
  intro p e s m below meth c ls hx hb hml hr hts hown hlocks hin hv hl
  obtain ⟨hP, hK⟩ := hv
  have hown : s.vm.findClass RX0 = some m.cls := hown
  have hl : lv_has ls 3 [(0, .ref h), (1, .int x), (2, .int ld)] := hl
  refine lv_aload_n hx hb dX0_spillsUnder_0 rfl (lv_at hl 0 rfl) ?_
  refine lv_iload_n hx hb dX0_spillsUnder_1 rfl (lv_at hl 1 rfl) ?_
  refine kr_vI (n := 1) (As := [.int x]) (rest := []) ⟨hx, hb, hml, hown, hts⟩ (c_X0_isKnot l D cy h a N L A x) kg_RX0_125 ⟨rfl, rfl⟩ (by decide +kernel) ⟨Nat.le_of_ble_eq_true rfl, Nat.le_of_ble_eq_true rfl⟩ (kr_pv0 hP hK) rfl hl.1 rfl (Nat.le_of_ble_eq_true rfl) dX0_spillsUnder_2 ⟨Nat.zero_le _, Nat.zero_le _⟩ (fun r9 e9 => ?_)
  subst e9
  refine lv_if_eq (tgt := 31) hx hb dX0_spillsUnder_5 (by decide) (fun c5 => ?_) (fun c5 => ?_)
  · refine lv_iconst (v := 0) hx hb dX0_spillsUnder_31 (by decide) ?_
    exact kr_eZ hx hb hr hlocks rfl (Or.inl rfl) (if_neg (fun q => kr_if0 c5 (kr_isK2 hN hx0 q.1))).symm dX0_spillsUnder_32
  · obtain ⟨j, hj, rfl⟩ := kr_isK hN hx0 (kr_if1 c5)
    refine lv_aload_n hx hb dX0_spillsUnder_8 rfl (lv_at hl 0 rfl) ?_
    refine va_get (ci := 0) (v := .ref (a 3)) (C := RX0) (T := TX0) (N := 10) hx hb hts kr_wsX0 hown hK hP 0 rfl rfl 3 (by decide) (hts _ kq_45) (fun _ h9 => h9) rfl dX0_spillsUnder_9 ?_
    refine lv_iload_n hx hb dX0_spillsUnder_12 rfl (lv_at hl 1 rfl) ?_
    refine kr_ald hx hb hK hP 4 0 rfl rfl j (by omega) (by decide) dX0_spillsUnder_13 ?_
    refine lv_if_eq (tgt := 31) hx hb dX0_spillsUnder_14 (by decide) (fun c14 => ?_) (fun c14 => ?_)
    · refine lv_iconst (v := 0) hx hb dX0_spillsUnder_31 (by decide) ?_
      exact kr_eZ hx hb hr hlocks rfl (Or.inl rfl) (if_neg (fun q => ((kr_go_nI (by omega)).mp q).1 c14)).symm dX0_spillsUnder_32
    · refine lv_aload_n hx hb dX0_spillsUnder_17 rfl (lv_at hl 0 rfl) ?_
      refine va_get (ci := 0) (v := .ref (a 3)) (C := RX0) (T := TX0) (N := 10) hx hb hts kr_wsX0 hown hK hP 0 rfl rfl 3 (by decide) (hts _ kq_45) (fun _ h9 => h9) rfl dX0_spillsUnder_18 ?_
      refine lv_iload_n hx hb dX0_spillsUnder_21 rfl (lv_at hl 1 rfl) ?_
      refine kr_ald hx hb hK hP 4 0 rfl rfl j (by omega) (by decide) dX0_spillsUnder_22 ?_
      refine lv_iload_n hx hb dX0_spillsUnder_23 rfl (lv_at hl 2 rfl) ?_
      refine lv_icmp_gt (tgt := 31) hx hb dX0_spillsUnder_24 (by decide) (fun c24 => ?_) (fun c24 => ?_)
      · refine lv_iconst (v := 0) hx hb dX0_spillsUnder_31 (by decide) ?_
        exact kr_eZ hx hb hr hlocks rfl (Or.inl rfl) (if_neg (fun q => (kr_ngt c24) ((kr_go_nI (by omega)).mp q).2)).symm dX0_spillsUnder_32
      · refine lv_iconst (v := 1) hx hb dX0_spillsUnder_27 (by decide) ?_
        refine lv_goto (tgt := 32) hx hb dX0_spillsUnder_28 (by decide) ?_
        exact kr_eZ hx hb hr hlocks rfl (Or.inr rfl) (if_pos ((kr_go_nI (by omega)).mpr ⟨c14, kr_nlt c24⟩)).symm dX0_spillsUnder_32
theorem kg_RX0_121 : GoodIn kr_all (wsV RX0 121 RX0 yX0_spillsUnder (Cond.code yX0_spillsUnder cX0_spillsUnder 3 (some .boolean) :: kr_all)) := kr_gV kq_234 kq_236 kq_11 kq_25 kq_237
set_option maxHeartbeats 4000000 in
set_option maxRecDepth 100000 in
theorem c_X0_formUnder (l : Launch) (D : va_G) (cy : ClassId) (h : Nat) (a : Nat → Nat) (N L : Nat) (A : Nat → Nat → Int32) (x ld : Int32) (hw : kr_wf N L A) (hx0 : kr_kn N x) : Met l yX0_formUnder (Cond.code yX0_formUnder cX0_formUnder 5 (some .int) :: kr_all) ({ frames := 2, cells := 0, slots := 0, locals := 43 }) (va_Pc [.ref h, .int x, .int ld] (kr_R D (kr_W0 cy h a N L A) cy)) (vp_Si (fun r => r = kr_fm A ld 16 x)) 0 0 (fun _ => False) := by
  refine kr_of (by decide) (Nat.le_of_ble_eq_true rfl) ?_
  intro p e s m below meth c ls hx hb hml hr hts hown hlocks hin hv hl
  obtain ⟨hP, hK⟩ := hv
  have hown : s.vm.findClass RX0 = some m.cls := hown
  have hl : lv_has ls 5 [(0, .ref h), (1, .int x), (2, .int ld)] := hl
  have hN := hw.1
  refine lv_iload_n hx hb dX0_formUnder_0 rfl (lv_at hl 1 rfl) ?_
  refine lv_istore_n (lv' := [(3, .int x), (0, .ref h), (1, .int x), (2, .int ld)]) hx hb dX0_formUnder_1 rfl hl (by decide) rfl (fun ls hl => ?_)
  refine lv_iconst (v := 0) hx hb dX0_formUnder_2 (by decide) ?_
  refine lv_istore (lv' := [(4, .int 0), (3, .int x), (0, .ref h), (1, .int x), (2, .int ld)]) hx hb dX0_formUnder_3 hl (by decide) rfl (fun ls hl => ?_)
  refine kr_lp (nL := 5) (fun z : Nat × Int32 => [(4, .int (nI z.1)), (3, .int z.2), (0, .ref h), (1, .int x), (2, .int ld)]) (fun z => z.1 ≤ 16 ∧ kr_kn N z.2 ∧ kr_fm A ld (16 - z.1) z.2 = kr_fm A ld 16 x) (fun z => 16 - z.1) ?_ (0, x) ⟨by omega, hx0, rfl⟩ (lv_sub hl [0, 1, 2, 3, 4] rfl)
  clear hl
  intro z ls hI hl ih
  obtain ⟨i, f⟩ := z
  have hl : lv_has ls 5 [(4, .int (nI i)), (3, .int f), (0, .ref h), (1, .int x), (2, .int ld)] := hl
  obtain ⟨hi0, hf, he⟩ : i ≤ 16 ∧ kr_kn N f ∧ kr_fm A ld (16 - i) f = kr_fm A ld 16 x := hI
  refine lv_iload hx hb dX0_formUnder_5 (lv_at hl 0 rfl) ?_
  refine lv_bipush (v := 16) hx hb dX0_formUnder_7 (by decide) ?_
  refine lv_icmp_ge (tgt := 34) hx hb dX0_formUnder_9 (by decide) (fun c9 => ?_) (fun c9 => ?_)
  · have hi2 : i = 16 := by have := kr_ge (b := 16) (by omega) (by decide) c9; omega
    subst hi2
    refine lv_iload_n hx hb dX0_formUnder_34 rfl (lv_at hl 1 rfl) ?_
    exact kr_eI hx hb hr hlocks rfl he dX0_formUnder_35
  · have hi : i < 16 := kr_lt (b := 16) (by omega) (by decide) c9
    refine lv_aload_n hx hb dX0_formUnder_12 rfl (lv_at hl 2 rfl) ?_
    refine lv_iload_n hx hb dX0_formUnder_13 rfl (lv_at hl 1 rfl) ?_
    refine lv_iload_n hx hb dX0_formUnder_14 rfl (lv_at hl 4 rfl) ?_
    refine kr_vI (n := 2) (As := [.int f, .int ld]) (rest := []) ⟨hx, hb, hml, hown, hts⟩ (c_X0_spillsUnder l D cy h a N L A f ld hw.1 (by assumption)) kg_RX0_121 ⟨rfl, rfl⟩ (by decide +kernel) ⟨Nat.le_of_ble_eq_true rfl, Nat.le_of_ble_eq_true rfl⟩ (kr_pv0 hP hK) rfl hl.1 rfl (Nat.le_of_ble_eq_true rfl) dX0_formUnder_15 ⟨Nat.zero_le _, Nat.zero_le _⟩ (fun r9 e9 => ?_)
    subst e9
    refine lv_if_eq (tgt := 34) hx hb dX0_formUnder_18 (by decide) (fun c18 => ?_) (fun c18 => ?_)
    · refine lv_iload_n hx hb dX0_formUnder_34 rfl (lv_at hl 1 rfl) ?_
      exact kr_eI hx hb hr hlocks rfl ((kr_fm_no (kr_if0 c18) _).symm.trans he) dX0_formUnder_35
    · obtain ⟨j, hj, rfl⟩ := kr_go_kn hN hf (kr_if1 c18)
      refine lv_aload_n hx hb dX0_formUnder_21 rfl (lv_at hl 2 rfl) ?_
      refine va_get (ci := 0) (v := .ref (a 4)) (C := RX0) (T := TX0) (N := 10) hx hb hts kr_wsX0 hown hK hP 0 rfl rfl 4 (by decide) (hts _ kq_46) (fun _ h9 => h9) rfl dX0_formUnder_22 ?_
      refine lv_iload_n hx hb dX0_formUnder_25 rfl (lv_at hl 1 rfl) ?_
      refine kr_ald hx hb hK hP 5 0 rfl rfl j (by omega) (by decide) dX0_formUnder_26 ?_
      refine lv_istore_n (lv' := [(3, .int (A 4 j)), (4, .int (nI i)), (0, .ref h), (1, .int x), (2, .int ld)]) hx hb dX0_formUnder_27 rfl hl (by decide) rfl (fun ls hl => ?_)
      refine lv_iinc (v := nI (i + 1)) (lv' := [(4, .int (nI (i + 1))), (3, .int (A 4 j)), (0, .ref h), (1, .int x), (2, .int ld)]) hx hb dX0_formUnder_28 hl (k := 1) rfl (kr_inc _) (by decide) rfl (fun ls hl => ?_)
      refine lv_goto (tgt := 5) hx hb dX0_formUnder_31 (by decide) ?_
      exact ih (i + 1, A 4 j) ls ⟨by omega, hw.kn hj, (kr_fm_go hi (by omega) (kr_if1 c18)).symm.trans he⟩ (by show 16 - (i + 1) < 16 - i; omega) (lv_sub hl [0, 1, 2, 3, 4] rfl)
theorem kg_RX0_97 : GoodIn kr_all (wsS RX0 97 yX0_slot (Cond.code yX0_slot cX0_slot 2 (some .int) :: kr_all)) := kr_gS kq_187 kq_188 kq_25 kq_189
set_option maxHeartbeats 4000000 in
set_option maxRecDepth 100000 in
theorem c_X0_strengthWith (l : Launch) (D : va_G) (cy : ClassId) (h : Nat) (a : Nat → Nat) (N L : Nat) (A : Nat → Nat → Int32) (q pl k : Nat) (hq : q < 6) (hp : pl < 5) (hk : k < 16) : Met l yX0_strengthWith (Cond.code yX0_strengthWith cX0_strengthWith 5 (some .int) :: kr_all) ({ frames := 1, cells := 0, slots := 0, locals := 21 }) (va_Pc [.ref h, .int (nI q), .int (nI pl), .int (nI k)] (kr_R D (kr_W0 cy h a N L A) cy)) (vp_Si (fun r => r = kr_st A q pl (nI k))) 0 0 (fun _ => False) := by
  refine kr_of (by decide) (Nat.le_of_ble_eq_true rfl) ?_
  intro p e s m below meth c ls hx hb hml hr hts hown hlocks hin hv hl
  obtain ⟨hP, hK⟩ := hv
  have hown : s.vm.findClass RX0 = some m.cls := hown
  have hl : lv_has ls 5 [(0, .ref h), (1, .int (nI q)), (2, .int (nI pl)), (3, .int (nI k))] := hl
  refine lv_aload_n hx hb dX0_strengthWith_0 rfl (lv_at hl 0 rfl) ?_
  refine va_get (ci := 0) (v := .ref (a 7)) (C := RX0) (T := TX0) (N := 10) hx hb hts kr_wsX0 hown hK hP 0 rfl rfl 9 (by decide) (hts _ kq_51) (fun _ h9 => h9) rfl dX0_strengthWith_1 ?_
  refine lv_iload_n hx hb dX0_strengthWith_4 rfl (lv_at hl 1 rfl) ?_
  refine lv_iload_n hx hb dX0_strengthWith_5 rfl (lv_at hl 2 rfl) ?_
  refine kr_sI (n := 2) (As := [.int (nI q), .int (nI pl)]) (rest := [.ref (a 7)]) ⟨hx, hb, hml, hown, hts⟩ (c_X0_slot l q pl) kg_RX0_97 ⟨rfl, rfl⟩ (by decide +kernel) ⟨Nat.le_of_ble_eq_true rfl, Nat.le_of_ble_eq_true rfl⟩ ⟨kr_blT, fun U hU hW => ⟨rfl, trivial⟩⟩ rfl hl.1 rfl (Nat.le_of_ble_eq_true rfl) dX0_strengthWith_6 ⟨Nat.zero_le _, Nat.zero_le _⟩ (fun r9 e9 => ?_)
  subst e9
  refine kr_ald hx hb hK hP 8 0 rfl rfl (5 * q + pl) (by omega) (by decide) dX0_strengthWith_9 ?_
  refine lv_istore (lv' := [(4, .int (A 7 (5 * q + pl))), (0, .ref h), (1, .int (nI q)), (2, .int (nI pl)), (3, .int (nI k))]) hx hb dX0_strengthWith_10 hl (by decide) rfl (fun ls hl => ?_)
  refine lv_iload_n hx hb dX0_strengthWith_12 rfl (lv_at hl 3 rfl) ?_
  refine lv_if_le (tgt := 35) hx hb dX0_strengthWith_13 (by decide) (fun c13 => ?_) (fun c13 => ?_)
  · refine lv_iload hx hb dX0_strengthWith_35 (lv_at hl 0 rfl) ?_
    refine lv_aload_n hx hb dX0_strengthWith_37 rfl (lv_at hl 1 rfl) ?_
    refine va_get (ci := 0) (v := .ref (a 1)) (C := RX0) (T := TX0) (N := 10) hx hb hts kr_wsX0 hown hK hP 0 rfl rfl 1 (by decide) (hts _ kq_43) (fun _ h9 => h9) rfl dX0_strengthWith_38 ?_
    refine lv_iload_n hx hb dX0_strengthWith_41 rfl (lv_at hl 4 rfl) ?_
    refine kr_ald hx hb hK hP 2 0 rfl rfl k (by omega) (by decide) dX0_strengthWith_42 ?_
    refine lv_imul hx hb dX0_strengthWith_43 ?_
    refine lv_bipush (v := 100) hx hb dX0_strengthWith_44 (by decide) ?_
    refine lv_idiv hx hb dX0_strengthWith_46 (by decide) ?_
    exact kr_eI hx hb hr hlocks rfl (kr_st_0 (by have := kr_ge (a := 0) (b := pl) (by decide) (by omega) c13; omega) (by omega)).symm dX0_strengthWith_47
  · have hp0 : 0 < pl := kr_lt (a := 0) (by decide) (by omega) c13
    refine lv_iload hx hb dX0_strengthWith_16 (lv_at hl 0 rfl) ?_
    refine lv_aload_n hx hb dX0_strengthWith_18 rfl (lv_at hl 1 rfl) ?_
    refine va_get (ci := 0) (v := .ref (a 7)) (C := RX0) (T := TX0) (N := 10) hx hb hts kr_wsX0 hown hK hP 0 rfl rfl 9 (by decide) (hts _ kq_51) (fun _ h9 => h9) rfl dX0_strengthWith_19 ?_
    refine lv_iload_n hx hb dX0_strengthWith_22 rfl (lv_at hl 2 rfl) ?_
    refine lv_iload_n hx hb dX0_strengthWith_23 rfl (lv_at hl 3 rfl) ?_
    refine lv_iconst (v := 1) hx hb dX0_strengthWith_24 (by decide) ?_
    refine kr_isubN hx hb pl 1 (by omega) dX0_strengthWith_25 ?_
    refine kr_sI (n := 2) (As := [.int (nI q), .int (nI (pl - 1))]) (rest := [.ref (a 7), .int (A 7 (5 * q + pl))]) ⟨hx, hb, hml, hown, hts⟩ (c_X0_slot l q (pl - 1)) kg_RX0_97 ⟨rfl, rfl⟩ (by decide +kernel) ⟨Nat.le_of_ble_eq_true rfl, Nat.le_of_ble_eq_true rfl⟩ ⟨kr_blT, fun U hU hW => ⟨rfl, trivial⟩⟩ rfl hl.1 rfl (Nat.le_of_ble_eq_true rfl) dX0_strengthWith_26 ⟨Nat.zero_le _, Nat.zero_le _⟩ (fun r9 e9 => ?_)
    subst e9
    refine kr_ald hx hb hK hP 8 0 rfl rfl (5 * q + (pl - 1)) (by omega) (by decide) dX0_strengthWith_29 ?_
    refine va_mmin hx hb (hml.trans hl.1.symm) hown (hts _ kq_242) (hts _ kq_243) (hts _ kq_33) (hts _ kq_244) (Nat.le_of_ble_eq_true rfl) (Nat.le_of_ble_eq_true rfl) (Nat.zero_le _) (Nat.zero_le _) dX0_strengthWith_30 ?_
    show W _ _ _ _ _ _ _ _ _ _ _ _ _ _ _ (F0 _ _ _ (.int (kr_mn (A 7 (5 * q + pl)) (A 7 (5 * q + (pl - 1)))) :: _))
    refine lv_istore (lv' := [(4, .int (kr_mn (A 7 (5 * q + pl)) (A 7 (5 * q + (pl - 1))))), (0, .ref h), (1, .int (nI q)), (2, .int (nI pl)), (3, .int (nI k))]) hx hb dX0_strengthWith_33 hl (by decide) rfl (fun ls hl => ?_)
    refine lv_iload hx hb dX0_strengthWith_35 (lv_at hl 0 rfl) ?_
    refine lv_aload_n hx hb dX0_strengthWith_37 rfl (lv_at hl 1 rfl) ?_
    refine va_get (ci := 0) (v := .ref (a 1)) (C := RX0) (T := TX0) (N := 10) hx hb hts kr_wsX0 hown hK hP 0 rfl rfl 1 (by decide) (hts _ kq_43) (fun _ h9 => h9) rfl dX0_strengthWith_38 ?_
    refine lv_iload_n hx hb dX0_strengthWith_41 rfl (lv_at hl 4 rfl) ?_
    refine kr_ald hx hb hK hP 2 0 rfl rfl k (by omega) (by decide) dX0_strengthWith_42 ?_
    refine lv_imul hx hb dX0_strengthWith_43 ?_
    refine lv_bipush (v := 100) hx hb dX0_strengthWith_44 (by decide) ?_
    refine lv_idiv hx hb dX0_strengthWith_46 (by decide) ?_
    exact kr_eI hx hb hr hlocks rfl (by rw [kr_st_s (by omega) (by omega), show 5 * q + (pl - 1) = 5 * q + pl - 1 by omega]) dX0_strengthWith_47
theorem kg_RX0_223 : GoodIn kr_all (wsV RX0 223 RX0 yX0_strengthWith (Cond.code yX0_strengthWith cX0_strengthWith 5 (some .int) :: kr_all)) := kr_gV kq_238 kq_240 kq_12 kq_25 kq_241
set_option maxHeartbeats 4000000 in
set_option maxRecDepth 100000 in
theorem c_X0_currentStrength (l : Launch) (D : va_G) (cy : ClassId) (h : Nat) (a : Nat → Nat) (N L : Nat) (A : Nat → Nat → Int32) (q pl : Nat) (hw : kr_wf N L A) (hq : q < L) (hp : pl < kr_rc A q) : Met l yX0_currentStrength (Cond.code yX0_currentStrength cX0_currentStrength 3 (some .int) :: kr_all) ({ frames := 2, cells := 0, slots := 0, locals := 45 }) (va_Pc [.ref h, .int (nI q), .int (nI pl)] (kr_R D (kr_W0 cy h a N L A) cy)) (vp_Si (fun r => r = kr_nw A q pl)) 0 0 (fun _ => False) := by
  refine kr_of (by decide) (Nat.le_of_ble_eq_true rfl) ?_
  intro p e s m below meth c ls hx hb hml hr hts hown hlocks hin hv hl
  obtain ⟨hP, hK⟩ := hv
  have hown : s.vm.findClass RX0 = some m.cls := hown
  have hl : lv_has ls 3 [(0, .ref h), (1, .int (nI q)), (2, .int (nI pl))] := hl
  have hN := hw.1
  have hL := hw.2.1
  have hrc := (hw.rc hq).1
  refine lv_aload_n hx hb dX0_currentStrength_0 rfl (lv_at hl 0 rfl) ?_
  refine lv_iload_n hx hb dX0_currentStrength_1 rfl (lv_at hl 1 rfl) ?_
  refine lv_iload_n hx hb dX0_currentStrength_2 rfl (lv_at hl 2 rfl) ?_
  refine lv_aload_n hx hb dX0_currentStrength_3 rfl (lv_at hl 0 rfl) ?_
  refine va_get (ci := 0) (v := .ref (a 6)) (C := RX0) (T := TX0) (N := 10) hx hb hts kr_wsX0 hown hK hP 0 rfl rfl 8 (by decide) (hts _ kq_50) (fun _ h9 => h9) rfl dX0_currentStrength_4 ?_
  refine lv_iload_n hx hb dX0_currentStrength_7 rfl (lv_at hl 1 rfl) ?_
  refine lv_iload_n hx hb dX0_currentStrength_8 rfl (lv_at hl 2 rfl) ?_
  refine kr_sI (n := 2) (As := [.int (nI q), .int (nI pl)]) (rest := [.ref (a 6), .int (nI pl), .int (nI q), .ref h]) ⟨hx, hb, hml, hown, hts⟩ (c_X0_slot l q pl) kg_RX0_97 ⟨rfl, rfl⟩ (by decide +kernel) ⟨Nat.le_of_ble_eq_true rfl, Nat.le_of_ble_eq_true rfl⟩ ⟨kr_blT, fun U hU hW => ⟨rfl, trivial⟩⟩ rfl hl.1 rfl (Nat.le_of_ble_eq_true rfl) dX0_currentStrength_9 ⟨Nat.zero_le _, Nat.zero_le _⟩ (fun r9 e9 => ?_)
  subst e9
  refine kr_ald hx hb hK hP 7 0 rfl rfl (5 * q + pl) (by omega) (by decide) dX0_currentStrength_12 ?_
  obtain ⟨k, hk, ek⟩ := hw.tk hq hp
  rw [ek]
  refine kr_vI (n := 3) (As := [.int (nI q), .int (nI pl), .int (nI k)]) (rest := []) ⟨hx, hb, hml, hown, hts⟩ (c_X0_strengthWith l D cy h a N L A q pl k (by omega) (by omega) (by omega)) kg_RX0_223 ⟨rfl, rfl⟩ (by decide +kernel) ⟨Nat.le_of_ble_eq_true rfl, Nat.le_of_ble_eq_true rfl⟩ (kr_pv0 hP hK) rfl hl.1 rfl (Nat.le_of_ble_eq_true rfl) dX0_currentStrength_13 ⟨Nat.zero_le _, Nat.zero_le _⟩ (fun r9 e9 => ?_)
  subst e9
  exact kr_eI hx hb hr hlocks rfl (by unfold kr_nw; rw [ek]) dX0_currentStrength_16
theorem kg_RX0_104 : GoodIn kr_all (wsV RX0 104 RX0 yX0_formUnder (Cond.code yX0_formUnder cX0_formUnder 5 (some .int) :: kr_all)) := kr_gV kq_230 kq_232 kq_10 kq_25 kq_233
set_option maxHeartbeats 4000000 in
set_option maxRecDepth 100000 in
theorem c_X0_placeHolds (l : Launch) (D : va_G) (cy : ClassId) (h : Nat) (a : Nat → Nat) (N L : Nat) (A : Nat → Nat → Int32) (q pl : Nat) (ld : Int32) (hw : kr_wf N L A) (hq : q < L) (hp : pl < kr_rc A q) : Met l yX0_placeHolds (Cond.code yX0_placeHolds cX0_placeHolds 5 (some .boolean) :: kr_all) ({ frames := 3, cells := 0, slots := 0, locals := 67 }) (va_Pc [.ref h, .int (nI q), .int (nI pl), .int ld] (kr_R D (kr_W0 cy h a N L A) cy)) (vp_Si (fun r => r = if kr_ph A q ld pl then 1 else 0)) 0 0 (fun _ => False) := by
  refine kr_of (by decide) (Nat.le_of_ble_eq_true rfl) ?_
  intro p e s m below meth c ls hx hb hml hr hts hown hlocks hin hv hl
  obtain ⟨hP, hK⟩ := hv
  have hown : s.vm.findClass RX0 = some m.cls := hown
  have hl : lv_has ls 5 [(0, .ref h), (1, .int (nI q)), (2, .int (nI pl)), (3, .int ld)] := hl
  have hN := hw.1
  have hL := hw.2.1
  have hrc := (hw.rc hq).1
  refine lv_aload_n hx hb dX0_placeHolds_0 rfl (lv_at hl 0 rfl) ?_
  refine lv_aload_n hx hb dX0_placeHolds_1 rfl (lv_at hl 0 rfl) ?_
  refine va_get (ci := 0) (v := .ref (a 6)) (C := RX0) (T := TX0) (N := 10) hx hb hts kr_wsX0 hown hK hP 0 rfl rfl 8 (by decide) (hts _ kq_50) (fun _ h9 => h9) rfl dX0_placeHolds_2 ?_
  refine lv_iload_n hx hb dX0_placeHolds_5 rfl (lv_at hl 1 rfl) ?_
  refine lv_iload_n hx hb dX0_placeHolds_6 rfl (lv_at hl 2 rfl) ?_
  refine kr_sI (n := 2) (As := [.int (nI q), .int (nI pl)]) (rest := [.ref (a 6), .ref h]) ⟨hx, hb, hml, hown, hts⟩ (c_X0_slot l q pl) kg_RX0_97 ⟨rfl, rfl⟩ (by decide +kernel) ⟨Nat.le_of_ble_eq_true rfl, Nat.le_of_ble_eq_true rfl⟩ ⟨kr_blT, fun U hU hW => ⟨rfl, trivial⟩⟩ rfl hl.1 rfl (Nat.le_of_ble_eq_true rfl) dX0_placeHolds_7 ⟨Nat.zero_le _, Nat.zero_le _⟩ (fun r9 e9 => ?_)
  subst e9
  refine kr_ald hx hb hK hP 7 0 rfl rfl (5 * q + pl) (by omega) (by decide) dX0_placeHolds_10 ?_
  refine lv_iload_n hx hb dX0_placeHolds_11 rfl (lv_at hl 3 rfl) ?_
  refine kr_vI (n := 2) (As := [.int (A 6 (5 * q + pl)), .int ld]) (rest := []) ⟨hx, hb, hml, hown, hts⟩ (c_X0_formUnder l D cy h a N L A (A 6 (5 * q + pl)) ld hw (by first | assumption | exact Or.inr ⟨_, by assumption, rfl⟩ | exact hw.tn (by assumption) (by assumption))) kg_RX0_104 ⟨rfl, rfl⟩ (by decide +kernel) ⟨Nat.le_of_ble_eq_true rfl, Nat.le_of_ble_eq_true rfl⟩ (kr_pv0 hP hK) rfl hl.1 rfl (Nat.le_of_ble_eq_true rfl) dX0_placeHolds_12 ⟨Nat.zero_le _, Nat.zero_le _⟩ (fun r9 e9 => ?_)
  subst e9
  refine lv_topi (fun f ef => ?_)
  have hf : kr_kn N f := ef ▸ kr_fm_kn hw 16 _ (hw.tn hq hp)
  refine lv_istore (lv' := [(4, .int f), (0, .ref h), (1, .int (nI q)), (2, .int (nI pl)), (3, .int ld)]) hx hb dX0_placeHolds_15 hl (by decide) rfl (fun ls hl => ?_)
  refine lv_aload_n hx hb dX0_placeHolds_17 rfl (lv_at hl 1 rfl) ?_
  refine lv_iload hx hb dX0_placeHolds_18 (lv_at hl 0 rfl) ?_
  refine kr_vI (n := 1) (As := [.int f]) (rest := []) ⟨hx, hb, hml, hown, hts⟩ (c_X0_isKnot l D cy h a N L A f) kg_RX0_125 ⟨rfl, rfl⟩ (by decide +kernel) ⟨Nat.le_of_ble_eq_true rfl, Nat.le_of_ble_eq_true rfl⟩ (kr_pv0 hP hK) rfl hl.1 rfl (Nat.le_of_ble_eq_true rfl) dX0_placeHolds_20 ⟨Nat.zero_le _, Nat.zero_le _⟩ (fun r9 e9 => ?_)
  subst e9
  refine lv_if_eq (tgt := 42) hx hb dX0_placeHolds_23 (by decide) (fun c23 => ?_) (fun c23 => ?_)
  · refine lv_iconst (v := 0) hx hb dX0_placeHolds_42 (by decide) ?_
    exact kr_eZ hx hb hr hlocks rfl (Or.inl rfl) (if_neg (fun z => z.1 (ef ▸ kr_isK3 hN hf (kr_if0 c23)))).symm dX0_placeHolds_43
  · obtain ⟨k, hk, rfl⟩ := kr_isK hN hf (kr_if1 c23)
    refine lv_aload_n hx hb dX0_placeHolds_26 rfl (lv_at hl 1 rfl) ?_
    refine lv_iload_n hx hb dX0_placeHolds_27 rfl (lv_at hl 2 rfl) ?_
    refine lv_iload_n hx hb dX0_placeHolds_28 rfl (lv_at hl 3 rfl) ?_
    refine lv_iload hx hb dX0_placeHolds_29 (lv_at hl 0 rfl) ?_
    refine kr_vI (n := 3) (As := [.int (nI q), .int (nI pl), .int (nI k)]) (rest := []) ⟨hx, hb, hml, hown, hts⟩ (c_X0_strengthWith l D cy h a N L A q pl k (by omega) (by omega) (by omega)) kg_RX0_223 ⟨rfl, rfl⟩ (by decide +kernel) ⟨Nat.le_of_ble_eq_true rfl, Nat.le_of_ble_eq_true rfl⟩ (kr_pv0 hP hK) rfl hl.1 rfl (Nat.le_of_ble_eq_true rfl) dX0_placeHolds_31 ⟨Nat.zero_le _, Nat.zero_le _⟩ (fun r9 e9 => ?_)
    subst e9
    refine lv_iload_n hx hb dX0_placeHolds_34 rfl (lv_at hl 4 rfl) ?_
    refine lv_icmp_lt (tgt := 42) hx hb dX0_placeHolds_35 (by decide) (fun c35 => ?_) (fun c35 => ?_)
    · refine lv_iconst (v := 0) hx hb dX0_placeHolds_42 (by decide) ?_
      exact kr_eZ hx hb hr hlocks rfl (Or.inl rfl) (if_neg (fun z => kr_ngt c35 (by have := z.2; rw [← ef] at this; exact this))).symm dX0_placeHolds_43
    · refine lv_iconst (v := 1) hx hb dX0_placeHolds_38 (by decide) ?_
      refine lv_goto (tgt := 43) hx hb dX0_placeHolds_39 (by decide) ?_
      exact kr_eZ hx hb hr hlocks rfl (Or.inr rfl) (if_pos ⟨by rw [← ef]; exact kr_kn_ne (by omega), by rw [← ef]; exact kr_nlt c35⟩).symm dX0_placeHolds_43
theorem kg_RX0_226 : GoodIn kr_all (wsV RX0 226 RX0 yX0_placeHolds (Cond.code yX0_placeHolds cX0_placeHolds 5 (some .boolean) :: kr_all)) := kr_gV kq_226 kq_228 kq_9 kq_25 kq_229
set_option maxHeartbeats 4000000 in
set_option maxRecDepth 100000 in
theorem c_X0_firstPlaceToGiveWay (l : Launch) (D : va_G) (cy : ClassId) (h : Nat) (a : Nat → Nat) (N L : Nat) (A : Nat → Nat → Int32) (q : Nat) (ld : Int32) (hw : kr_wf N L A) (hq : q < L) : Met l yX0_firstPlaceToGiveWay (Cond.code yX0_firstPlaceToGiveWay cX0_firstPlaceToGiveWay 4 (some .int) :: kr_all) ({ frames := 4, cells := 0, slots := 0, locals := 91 }) (va_Pc [.ref h, .int (nI q), .int ld] (kr_R D (kr_W0 cy h a N L A) cy)) (vp_Si (fun r => r = kr_gw A q ld)) 0 0 (fun _ => False) := by
  refine kr_of (by decide) (Nat.le_of_ble_eq_true rfl) ?_
  intro p e s m below meth c ls hx hb hml hr hts hown hlocks hin hv hl
  obtain ⟨hP, hK⟩ := hv
  have hown : s.vm.findClass RX0 = some m.cls := hown
  have hl : lv_has ls 4 [(0, .ref h), (1, .int (nI q)), (2, .int ld)] := hl
  have hL := hw.2.1
  obtain ⟨hrc, er⟩ := hw.rc hq
  refine lv_iconst (v := 0) hx hb dX0_firstPlaceToGiveWay_0 (by decide) ?_
  refine lv_istore_n (lv' := [(3, .int 0), (0, .ref h), (1, .int (nI q)), (2, .int ld)]) hx hb dX0_firstPlaceToGiveWay_1 rfl hl (by decide) rfl (fun ls hl => ?_)
  refine kr_lp (nL := 4) (fun z : Nat => [(3, .int (nI z)), (0, .ref h), (1, .int (nI q)), (2, .int ld)]) (fun z => z ≤ kr_rc A q ∧ kr_fg A q ld (kr_rc A q - z) z = kr_gw A q ld) (fun z => kr_rc A q - z) ?_ (0) ⟨by omega, rfl⟩ (lv_sub hl [0, 1, 2, 3] rfl)
  clear hl
  intro z ls hI hl ih
  obtain ⟨i, rfl⟩ : ∃ y, y = z := ⟨_, rfl⟩
  have hl : lv_has ls 4 [(3, .int (nI i)), (0, .ref h), (1, .int (nI q)), (2, .int ld)] := hl
  obtain ⟨hi0, he⟩ : i ≤ kr_rc A q ∧ kr_fg A q ld (kr_rc A q - i) i = kr_gw A q ld := hI
  refine lv_iload_n hx hb dX0_firstPlaceToGiveWay_2 rfl (lv_at hl 0 rfl) ?_
  refine lv_aload_n hx hb dX0_firstPlaceToGiveWay_3 rfl (lv_at hl 1 rfl) ?_
  refine va_get (ci := 0) (v := .ref (a 5)) (C := RX0) (T := TX0) (N := 10) hx hb hts kr_wsX0 hown hK hP 0 rfl rfl 6 (by decide) (hts _ kq_48) (fun _ h9 => h9) rfl dX0_firstPlaceToGiveWay_4 ?_
  refine lv_iload_n hx hb dX0_firstPlaceToGiveWay_7 rfl (lv_at hl 2 rfl) ?_
  refine kr_ald hx hb hK hP 6 0 rfl rfl q (by omega) (by decide) dX0_firstPlaceToGiveWay_8 ?_
  rw [er]
  refine lv_icmp_ge (tgt := 30) hx hb dX0_firstPlaceToGiveWay_9 (by decide) (fun c9 => ?_) (fun c9 => ?_)
  · have hi2 : i = kr_rc A q := by have := kr_ge (by omega) (by omega) c9; omega
    subst hi2
    refine lv_iconst (v := -1) hx hb dX0_firstPlaceToGiveWay_30 (by decide) ?_
    exact kr_eI hx hb hr hlocks rfl (by rw [Nat.sub_self] at he; exact he) dX0_firstPlaceToGiveWay_31
  · have hi : i < kr_rc A q := kr_lt (by omega) (by omega) c9
    refine lv_aload_n hx hb dX0_firstPlaceToGiveWay_12 rfl (lv_at hl 1 rfl) ?_
    refine lv_iload_n hx hb dX0_firstPlaceToGiveWay_13 rfl (lv_at hl 2 rfl) ?_
    refine lv_iload_n hx hb dX0_firstPlaceToGiveWay_14 rfl (lv_at hl 0 rfl) ?_
    refine lv_iload_n hx hb dX0_firstPlaceToGiveWay_15 rfl (lv_at hl 3 rfl) ?_
    refine kr_vI (n := 3) (As := [.int (nI q), .int (nI i), .int ld]) (rest := []) ⟨hx, hb, hml, hown, hts⟩ (c_X0_placeHolds l D cy h a N L A q i ld hw (by omega) (by omega)) kg_RX0_226 ⟨rfl, rfl⟩ (by decide +kernel) ⟨Nat.le_of_ble_eq_true rfl, Nat.le_of_ble_eq_true rfl⟩ (kr_pv0 hP hK) rfl hl.1 rfl (Nat.le_of_ble_eq_true rfl) dX0_firstPlaceToGiveWay_16 ⟨Nat.zero_le _, Nat.zero_le _⟩ (fun r9 e9 => ?_)
    subst e9
    refine lv_if_ne (tgt := 24) hx hb dX0_firstPlaceToGiveWay_19 (by decide) (fun c19 => ?_) (fun c19 => ?_)
    · refine lv_iinc (v := nI (i + 1)) (lv' := [(3, .int (nI (i + 1))), (0, .ref h), (1, .int (nI q)), (2, .int ld)]) hx hb dX0_firstPlaceToGiveWay_24 hl (k := 0) rfl (kr_inc _) (by decide) rfl (fun ls hl => ?_)
      refine lv_goto (tgt := 2) hx hb dX0_firstPlaceToGiveWay_27 (by decide) ?_
      exact ih (i + 1) ls ⟨by omega, (kr_fg_s (kr_if1 c19) hi).symm.trans he⟩ (by show kr_rc A q - (i + 1) < kr_rc A q - i; omega) (lv_sub hl [0, 1, 2, 3] rfl)
    · refine lv_iload_n hx hb dX0_firstPlaceToGiveWay_22 rfl (lv_at hl 0 rfl) ?_
      exact kr_eI hx hb hr hlocks rfl ((kr_fg_no (kr_if0 c19) hi).symm.trans he) dX0_firstPlaceToGiveWay_23
set_option maxHeartbeats 4000000 in
set_option maxRecDepth 100000 in
theorem c_X0_loadHeldAt (l : Launch) (D : va_G) (cy : ClassId) (h : Nat) (a : Nat → Nat) (N L : Nat) (A : Nat → Nat → Int32) (q pl : Nat) (x : Int32) (hw : kr_wf N L A) (hq : q < 6) (hp : pl < 5) (hx0 : kr_kn N x) : Met l yX0_loadHeldAt (Cond.code yX0_loadHeldAt cX0_loadHeldAt 9 (some .int) :: kr_all) ({ frames := 2, cells := 0, slots := 0, locals := 45 }) (va_Pc [.ref h, .int (nI q), .int (nI pl), .int x] (kr_R D (kr_W0 cy h a N L A) cy)) (vp_Si (fun r => r = kr_lh A (kr_st A q pl) 16 x 0)) 0 0 (fun _ => False) := by
  refine kr_of (by decide) (Nat.le_of_ble_eq_true rfl) ?_
  intro p e s m below meth c ls hx hb hml hr hts hown hlocks hin hv hl
  obtain ⟨hP, hK⟩ := hv
  have hown : s.vm.findClass RX0 = some m.cls := hown
  have hl : lv_has ls 9 [(0, .ref h), (1, .int (nI q)), (2, .int (nI pl)), (3, .int x)] := hl
  have hN := hw.1
  refine lv_iconst (v := 0) hx hb dX0_loadHeldAt_0 (by decide) ?_
  refine lv_istore (lv' := [(4, .int 0), (0, .ref h), (1, .int (nI q)), (2, .int (nI pl)), (3, .int x)]) hx hb dX0_loadHeldAt_1 hl (by decide) rfl (fun ls hl => ?_)
  refine lv_iload_n hx hb dX0_loadHeldAt_3 rfl (lv_at hl 4 rfl) ?_
  refine lv_istore (lv' := [(5, .int x), (4, .int 0), (0, .ref h), (1, .int (nI q)), (2, .int (nI pl)), (3, .int x)]) hx hb dX0_loadHeldAt_4 hl (by decide) rfl (fun ls hl => ?_)
  refine lv_iconst (v := 0) hx hb dX0_loadHeldAt_6 (by decide) ?_
  refine lv_istore (lv' := [(6, .int 0), (5, .int x), (4, .int 0), (0, .ref h), (1, .int (nI q)), (2, .int (nI pl)), (3, .int x)]) hx hb dX0_loadHeldAt_7 hl (by decide) rfl (fun ls hl => ?_)
  refine kr_lp (nL := 9) (fun z : Nat × Int32 × Int32 => [(6, .int (nI z.1)), (5, .int z.2.1), (4, .int z.2.2), (0, .ref h), (1, .int (nI q)), (2, .int (nI pl)), (3, .int x)]) (fun z => z.1 ≤ 16 ∧ kr_kn N z.2.1 ∧ kr_lh A (kr_st A q pl) (16 - z.1) z.2.1 z.2.2 = kr_lh A (kr_st A q pl) 16 x 0) (fun z => 16 - z.1) ?_ (0, x, 0) ⟨by omega, hx0, rfl⟩ (lv_sub hl [0, 1, 2, 3, 4, 5, 6] rfl)
  clear hl
  intro z ls hI hl ih
  obtain ⟨i, f, g⟩ := z
  have hl : lv_has ls 9 [(6, .int (nI i)), (5, .int f), (4, .int g), (0, .ref h), (1, .int (nI q)), (2, .int (nI pl)), (3, .int x)] := hl
  obtain ⟨hi0, hf, he⟩ : i ≤ 16 ∧ kr_kn N f ∧ kr_lh A (kr_st A q pl) (16 - i) f g = kr_lh A (kr_st A q pl) 16 x 0 := hI
  refine lv_iload hx hb dX0_loadHeldAt_9 (lv_at hl 0 rfl) ?_
  refine lv_bipush (v := 16) hx hb dX0_loadHeldAt_11 (by decide) ?_
  refine lv_icmp_ge (tgt := 103) hx hb dX0_loadHeldAt_13 (by decide) (fun c13 => ?_) (fun c13 => ?_)
  · have hi2 : i = 16 := by have := kr_ge (b := 16) (by omega) (by decide) c13; omega
    subst hi2
    refine lv_iload hx hb dX0_loadHeldAt_103 (lv_at hl 2 rfl) ?_
    exact kr_eI hx hb hr hlocks rfl he dX0_loadHeldAt_105
  · have hi : i < 16 := kr_lt (b := 16) (by omega) (by decide) c13
    refine lv_aload_n hx hb dX0_loadHeldAt_16 rfl (lv_at hl 3 rfl) ?_
    refine lv_iload hx hb dX0_loadHeldAt_17 (lv_at hl 1 rfl) ?_
    refine kr_vI (n := 1) (As := [.int f]) (rest := []) ⟨hx, hb, hml, hown, hts⟩ (c_X0_isKnot l D cy h a N L A f) kg_RX0_125 ⟨rfl, rfl⟩ (by decide +kernel) ⟨Nat.le_of_ble_eq_true rfl, Nat.le_of_ble_eq_true rfl⟩ (kr_pv0 hP hK) rfl hl.1 rfl (Nat.le_of_ble_eq_true rfl) dX0_loadHeldAt_19 ⟨Nat.zero_le _, Nat.zero_le _⟩ (fun r9 e9 => ?_)
    subst e9
    refine lv_if_eq (tgt := 103) hx hb dX0_loadHeldAt_22 (by decide) (fun c22 => ?_) (fun c22 => ?_)
    · have hf2 := kr_isK3 hN hf (kr_if0 c22)
      subst hf2
      refine lv_iload hx hb dX0_loadHeldAt_103 (lv_at hl 2 rfl) ?_
      exact kr_eI hx hb hr hlocks rfl ((kr_lh_no _).symm.trans he) dX0_loadHeldAt_105
    · obtain ⟨j, hj, rfl⟩ := kr_isK hN hf (kr_if1 c22)
      rw [kr_lh_s hi (by omega)] at he
      have een := kr_en_nI (A := A) (j := j) (by omega)
      refine kr_jn (pcJ := 50) (stJ := []) (fun v => v = kr_en A (nI j)) (fun w ew => ?_) (fun J => ?_)
      · rw [← ew] at he
        refine lv_istore (lv' := [(7, .int w), (6, .int (nI i)), (5, .int (nI j)), (4, .int g), (0, .ref h), (1, .int (nI q)), (2, .int (nI pl)), (3, .int x)]) hx hb dX0_loadHeldAt_50 hl (by decide) rfl (fun ls hl => ?_)
        refine lv_iload hx hb dX0_loadHeldAt_52 (lv_at hl 0 rfl) ?_
        refine lv_iload hx hb dX0_loadHeldAt_54 (lv_at hl 3 rfl) ?_
        refine lv_icmp_le (tgt := 88) hx hb dX0_loadHeldAt_56 (by decide) (fun c56 => ?_) (fun c56 => ?_)
        · rw [if_neg (kr_ngt2 c56)] at he
          refine lv_aload_n hx hb dX0_loadHeldAt_88 rfl (lv_at hl 4 rfl) ?_
          refine va_get (ci := 0) (v := .ref (a 4)) (C := RX0) (T := TX0) (N := 10) hx hb hts kr_wsX0 hown hK hP 0 rfl rfl 4 (by decide) (hts _ kq_46) (fun _ h9 => h9) rfl dX0_loadHeldAt_89 ?_
          refine lv_iload hx hb dX0_loadHeldAt_92 (lv_at hl 2 rfl) ?_
          refine kr_ald hx hb hK hP 5 0 rfl rfl j (by omega) (by decide) dX0_loadHeldAt_94 ?_
          refine lv_istore (lv' := [(5, .int (A 4 j)), (7, .int w), (6, .int (nI i)), (4, .int g), (0, .ref h), (1, .int (nI q)), (2, .int (nI pl)), (3, .int x)]) hx hb dX0_loadHeldAt_95 hl (by decide) rfl (fun ls hl => ?_)
          refine lv_iinc (v := nI (i + 1)) (lv' := [(6, .int (nI (i + 1))), (5, .int (A 4 j)), (7, .int w), (4, .int g), (0, .ref h), (1, .int (nI q)), (2, .int (nI pl)), (3, .int x)]) hx hb dX0_loadHeldAt_97 hl (k := 2) rfl (kr_inc _) (by decide) rfl (fun ls hl => ?_)
          refine lv_goto (tgt := 9) hx hb dX0_loadHeldAt_100 (by decide) ?_
          exact ih (i + 1, A 4 j, g) ls ⟨by omega, hw.kn hj, he⟩ (by show 16 - (i + 1) < 16 - i; omega) (lv_sub hl [0, 1, 3, 4, 5, 6, 7] rfl)
        · rw [if_pos (kr_nle2 c56)] at he
          refine lv_aload_n hx hb dX0_loadHeldAt_59 rfl (lv_at hl 4 rfl) ?_
          refine lv_iload_n hx hb dX0_loadHeldAt_60 rfl (lv_at hl 5 rfl) ?_
          refine lv_iload_n hx hb dX0_loadHeldAt_61 rfl (lv_at hl 6 rfl) ?_
          refine lv_iload hx hb dX0_loadHeldAt_62 (lv_at hl 2 rfl) ?_
          refine kr_vI (n := 3) (As := [.int (nI q), .int (nI pl), .int (nI j)]) (rest := []) ⟨hx, hb, hml, hown, hts⟩ (c_X0_strengthWith l D cy h a N L A q pl j (by omega) (by omega) (by omega)) kg_RX0_223 ⟨rfl, rfl⟩ (by decide +kernel) ⟨Nat.le_of_ble_eq_true rfl, Nat.le_of_ble_eq_true rfl⟩ (kr_pv0 hP hK) rfl hl.1 rfl (Nat.le_of_ble_eq_true rfl) dX0_loadHeldAt_64 ⟨Nat.zero_le _, Nat.zero_le _⟩ (fun r9 e9 => ?_)
          subst e9
          refine lv_istore (lv' := [(8, .int (kr_st A q pl (nI j))), (7, .int w), (6, .int (nI i)), (5, .int (nI j)), (4, .int g), (0, .ref h), (1, .int (nI q)), (2, .int (nI pl)), (3, .int x)]) hx hb dX0_loadHeldAt_67 hl (by decide) rfl (fun ls hl => ?_)
          refine lv_iload hx hb dX0_loadHeldAt_69 (lv_at hl 0 rfl) ?_
          refine lv_iload hx hb dX0_loadHeldAt_71 (lv_at hl 1 rfl) ?_
          refine lv_icmp_ge (tgt := 84) hx hb dX0_loadHeldAt_73 (by decide) (fun c73 => ?_) (fun c73 => ?_)
          · rw [if_neg (kr_ngt2 c73)] at he
            refine lv_iload hx hb dX0_loadHeldAt_84 (lv_at hl 1 rfl) ?_
            refine lv_istore (lv' := [(4, .int w), (8, .int (kr_st A q pl (nI j))), (7, .int w), (6, .int (nI i)), (5, .int (nI j)), (0, .ref h), (1, .int (nI q)), (2, .int (nI pl)), (3, .int x)]) hx hb dX0_loadHeldAt_86 hl (by decide) rfl (fun ls hl => ?_)
            refine lv_aload_n hx hb dX0_loadHeldAt_88 rfl (lv_at hl 5 rfl) ?_
            refine va_get (ci := 0) (v := .ref (a 4)) (C := RX0) (T := TX0) (N := 10) hx hb hts kr_wsX0 hown hK hP 0 rfl rfl 4 (by decide) (hts _ kq_46) (fun _ h9 => h9) rfl dX0_loadHeldAt_89 ?_
            refine lv_iload hx hb dX0_loadHeldAt_92 (lv_at hl 4 rfl) ?_
            refine kr_ald hx hb hK hP 5 0 rfl rfl j (by omega) (by decide) dX0_loadHeldAt_94 ?_
            refine lv_istore (lv' := [(5, .int (A 4 j)), (4, .int w), (8, .int (kr_st A q pl (nI j))), (7, .int w), (6, .int (nI i)), (0, .ref h), (1, .int (nI q)), (2, .int (nI pl)), (3, .int x)]) hx hb dX0_loadHeldAt_95 hl (by decide) rfl (fun ls hl => ?_)
            refine lv_iinc (v := nI (i + 1)) (lv' := [(6, .int (nI (i + 1))), (5, .int (A 4 j)), (4, .int w), (8, .int (kr_st A q pl (nI j))), (7, .int w), (0, .ref h), (1, .int (nI q)), (2, .int (nI pl)), (3, .int x)]) hx hb dX0_loadHeldAt_97 hl (k := 4) rfl (kr_inc _) (by decide) rfl (fun ls hl => ?_)
            refine lv_goto (tgt := 9) hx hb dX0_loadHeldAt_100 (by decide) ?_
            exact ih (i + 1, A 4 j, w) ls ⟨by omega, hw.kn hj, he⟩ (by show 16 - (i + 1) < 16 - i; omega) (lv_sub hl [0, 1, 2, 5, 6, 7, 8] rfl)
          · rw [if_pos (kr_nle2 c73)] at he
            refine lv_iload hx hb dX0_loadHeldAt_76 (lv_at hl 4 rfl) ?_
            refine lv_iload hx hb dX0_loadHeldAt_78 (lv_at hl 0 rfl) ?_
            refine va_mmax hx hb (hml.trans hl.1.symm) hown (hts _ kq_310) (hts _ kq_311) (hts _ kq_33) (hts _ kq_312) (Nat.le_of_ble_eq_true rfl) (Nat.le_of_ble_eq_true rfl) (Nat.zero_le _) (Nat.zero_le _) dX0_loadHeldAt_80 ?_
            show W _ _ _ _ _ _ _ _ _ _ _ _ _ _ _ (F0 _ _ _ (.int (kr_mx g (kr_st A q pl (nI j))) :: _))
            exact kr_eI hx hb hr hlocks rfl he dX0_loadHeldAt_83
      · refine lv_aload_n hx hb dX0_loadHeldAt_25 rfl (lv_at hl 3 rfl) ?_
        refine va_get (ci := 0) (v := .ref (a 3)) (C := RX0) (T := TX0) (N := 10) hx hb hts kr_wsX0 hown hK hP 0 rfl rfl 3 (by decide) (hts _ kq_45) (fun _ h9 => h9) rfl dX0_loadHeldAt_26 ?_
        refine lv_iload hx hb dX0_loadHeldAt_29 (lv_at hl 1 rfl) ?_
        refine kr_ald hx hb hK hP 4 0 rfl rfl j (by omega) (by decide) dX0_loadHeldAt_31 ?_
        refine lv_if_ne (tgt := 41) hx hb dX0_loadHeldAt_32 (by decide) (fun c32 => ?_) (fun c32 => ?_)
        · refine lv_aload_n hx hb dX0_loadHeldAt_41 rfl (lv_at hl 3 rfl) ?_
          refine va_get (ci := 0) (v := .ref (a 3)) (C := RX0) (T := TX0) (N := 10) hx hb hts kr_wsX0 hown hK hP 0 rfl rfl 3 (by decide) (hts _ kq_45) (fun _ h9 => h9) rfl dX0_loadHeldAt_42 ?_
          refine lv_iload hx hb dX0_loadHeldAt_45 (lv_at hl 1 rfl) ?_
          refine kr_ald hx hb hK hP 4 0 rfl rfl j (by omega) (by decide) dX0_loadHeldAt_47 ?_
          refine lv_iconst (v := 1) hx hb dX0_loadHeldAt_48 (by decide) ?_
          refine lv_isub hx hb dX0_loadHeldAt_49 ?_
          exact J _ (by rw [een, if_neg c32])
        · refine lv_sipush (v := 999) hx hb dX0_loadHeldAt_35 (by decide) ?_
          refine lv_goto (tgt := 50) hx hb dX0_loadHeldAt_38 (by decide) ?_
          exact J _ (by rw [een, if_pos c32])
theorem kg_RX0_140 : GoodIn kr_all (wsV RX0 140 RX0 yX0_isGone (Cond.code yX0_isGone cX0_isGone 2 (some .boolean) :: kr_all)) := kr_gV kq_202 kq_204 kq_7 kq_25 kq_205
theorem kg_RX0_230 : GoodIn kr_all (wsV RX0 230 RX0 yX0_loadHeldAt (Cond.code yX0_loadHeldAt cX0_loadHeldAt 9 (some .int) :: kr_all)) := kr_gV kq_350 kq_352 kq_19 kq_25 kq_353
set_option maxHeartbeats 4000000 in
set_option maxRecDepth 100000 in
theorem c_X0_loadHeldWith (l : Launch) (D : va_G) (cy : ClassId) (h : Nat) (a : Nat → Nat) (N L : Nat) (A : Nat → Nat → Int32) (q : Nat) (z0 kn : Int32) (hw : kr_wf N L A) (hq : q < L) (hkn : kr_kn N kn) : Met l yX0_loadHeldWith (Cond.code yX0_loadHeldWith cX0_loadHeldWith 7 (some .int) :: kr_all) ({ frames := 3, cells := 0, slots := 0, locals := 73 }) (va_Pc [.ref h, .int (nI q), .int z0, .int kn] (kr_R D (kr_W0 cy h a N L A) cy)) (vp_Si (fun r => r = kr_lu A q z0 kn)) 0 0 (fun _ => False) := by
  refine kr_of (by decide) (Nat.le_of_ble_eq_true rfl) ?_
  intro p e s m below meth c ls hx hb hml hr hts hown hlocks hin hv hl
  obtain ⟨hP, hK⟩ := hv
  have hown : s.vm.findClass RX0 = some m.cls := hown
  have hl : lv_has ls 7 [(0, .ref h), (1, .int (nI q)), (2, .int z0), (3, .int kn)] := hl
  have hN := hw.1
  have hL := hw.2.1
  obtain ⟨hrc, er⟩ := hw.rc hq
  refine lv_aload_n hx hb dX0_loadHeldWith_0 rfl (lv_at hl 0 rfl) ?_
  refine lv_iload_n hx hb dX0_loadHeldWith_1 rfl (lv_at hl 1 rfl) ?_
  refine kr_vI (n := 1) (As := [.int (nI q)]) (rest := []) ⟨hx, hb, hml, hown, hts⟩ (c_X0_isGone l D cy h a N L A q (by omega)) kg_RX0_140 ⟨rfl, rfl⟩ (by decide +kernel) ⟨Nat.le_of_ble_eq_true rfl, Nat.le_of_ble_eq_true rfl⟩ (kr_pv0 hP hK) rfl hl.1 rfl (Nat.le_of_ble_eq_true rfl) dX0_loadHeldWith_2 ⟨Nat.zero_le _, Nat.zero_le _⟩ (fun r9 e9 => ?_)
  subst e9
  refine lv_if_eq (tgt := 10) hx hb dX0_loadHeldWith_5 (by decide) (fun c5 => ?_) (fun c5 => ?_)
  · refine lv_sipush (v := 999) hx hb dX0_loadHeldWith_10 (by decide) ?_
    refine lv_istore (lv' := [(4, .int 999), (0, .ref h), (1, .int (nI q)), (2, .int z0), (3, .int kn)]) hx hb dX0_loadHeldWith_13 hl (by decide) rfl (fun ls hl => ?_)
    refine lv_iconst (v := 0) hx hb dX0_loadHeldWith_15 (by decide) ?_
    refine lv_istore (lv' := [(5, .int 0), (4, .int 999), (0, .ref h), (1, .int (nI q)), (2, .int z0), (3, .int kn)]) hx hb dX0_loadHeldWith_16 hl (by decide) rfl (fun ls hl => ?_)
    refine kr_lp (nL := 7) (fun z : Nat × Int32 => [(5, .int (nI z.1)), (4, .int z.2), (0, .ref h), (1, .int (nI q)), (2, .int z0), (3, .int kn)]) (fun z => z.1 ≤ kr_rc A q ∧ kr_lw A q z0 kn (kr_rc A q - z.1) z.1 z.2 = kr_lu A q z0 kn) (fun z => kr_rc A q - z.1) ?_ (0, 999) ⟨by omega, (if_neg (kr_if0 c5)).symm⟩ (lv_sub hl [0, 1, 2, 3, 4, 5] rfl)
    clear hl
    intro z ls hI hl ih
    obtain ⟨i, g⟩ := z
    have hl : lv_has ls 7 [(5, .int (nI i)), (4, .int g), (0, .ref h), (1, .int (nI q)), (2, .int z0), (3, .int kn)] := hl
    obtain ⟨hi0, he⟩ : i ≤ kr_rc A q ∧ kr_lw A q z0 kn (kr_rc A q - i) i g = kr_lu A q z0 kn := hI
    refine lv_iload hx hb dX0_loadHeldWith_18 (lv_at hl 0 rfl) ?_
    refine lv_aload_n hx hb dX0_loadHeldWith_20 rfl (lv_at hl 2 rfl) ?_
    refine va_get (ci := 0) (v := .ref (a 5)) (C := RX0) (T := TX0) (N := 10) hx hb hts kr_wsX0 hown hK hP 0 rfl rfl 6 (by decide) (hts _ kq_48) (fun _ h9 => h9) rfl dX0_loadHeldWith_21 ?_
    refine lv_iload_n hx hb dX0_loadHeldWith_24 rfl (lv_at hl 3 rfl) ?_
    refine kr_ald hx hb hK hP 6 0 rfl rfl q (by omega) (by decide) dX0_loadHeldWith_25 ?_
    rw [er]
    refine lv_icmp_ge (tgt := 74) hx hb dX0_loadHeldWith_26 (by decide) (fun c26 => ?_) (fun c26 => ?_)
    · have hi2 : i = kr_rc A q := by have := kr_ge (by omega) (by omega) c26; omega
      subst hi2
      refine lv_iload hx hb dX0_loadHeldWith_74 (lv_at hl 1 rfl) ?_
      exact kr_eI hx hb hr hlocks rfl (by rw [Nat.sub_self] at he; exact he) dX0_loadHeldWith_76
    · have hi : i < kr_rc A q := kr_lt (by omega) (by omega) c26
      rw [kr_lw_s hi] at he
      refine kr_jn (pcJ := 50) (stJ := []) (fun v => v = if nI i = z0 then kn else A 6 (5 * q + i)) (fun w ew => ?_) (fun J => ?_)
      · rw [← ew] at he
        have hwk : kr_kn N w := by rw [ew]; split; exact hkn; exact hw.tn hq hi
        refine lv_istore (lv' := [(6, .int w), (5, .int (nI i)), (4, .int g), (0, .ref h), (1, .int (nI q)), (2, .int z0), (3, .int kn)]) hx hb dX0_loadHeldWith_50 hl (by decide) rfl (fun ls hl => ?_)
        refine lv_iload hx hb dX0_loadHeldWith_52 (lv_at hl 2 rfl) ?_
        refine lv_aload_n hx hb dX0_loadHeldWith_54 rfl (lv_at hl 3 rfl) ?_
        refine lv_iload_n hx hb dX0_loadHeldWith_55 rfl (lv_at hl 4 rfl) ?_
        refine lv_iload hx hb dX0_loadHeldWith_56 (lv_at hl 1 rfl) ?_
        refine lv_iload hx hb dX0_loadHeldWith_58 (lv_at hl 0 rfl) ?_
        refine kr_vI (n := 3) (As := [.int (nI q), .int (nI i), .int w]) (rest := [.int g]) ⟨hx, hb, hml, hown, hts⟩ (c_X0_loadHeldAt l D cy h a N L A q i w hw (by omega) (by omega) (by assumption)) kg_RX0_230 ⟨rfl, rfl⟩ (by decide +kernel) ⟨Nat.le_of_ble_eq_true rfl, Nat.le_of_ble_eq_true rfl⟩ (kr_pv0 hP hK) rfl hl.1 rfl (Nat.le_of_ble_eq_true rfl) dX0_loadHeldWith_60 ⟨Nat.zero_le _, Nat.zero_le _⟩ (fun r9 e9 => ?_)
        subst e9
        refine va_mmin hx hb (hml.trans hl.1.symm) hown (hts _ kq_242) (hts _ kq_243) (hts _ kq_33) (hts _ kq_244) (Nat.le_of_ble_eq_true rfl) (Nat.le_of_ble_eq_true rfl) (Nat.zero_le _) (Nat.zero_le _) dX0_loadHeldWith_63 ?_
        show W _ _ _ _ _ _ _ _ _ _ _ _ _ _ _ (F0 _ _ _ (.int (kr_mn g (kr_lh A (kr_st A q i) 16 w 0)) :: _))
        refine lv_istore (lv' := [(4, .int (kr_mn g (kr_lh A (kr_st A q i) 16 w 0))), (6, .int w), (5, .int (nI i)), (0, .ref h), (1, .int (nI q)), (2, .int z0), (3, .int kn)]) hx hb dX0_loadHeldWith_66 hl (by decide) rfl (fun ls hl => ?_)
        refine lv_iinc (v := nI (i + 1)) (lv' := [(5, .int (nI (i + 1))), (4, .int (kr_mn g (kr_lh A (kr_st A q i) 16 w 0))), (6, .int w), (0, .ref h), (1, .int (nI q)), (2, .int z0), (3, .int kn)]) hx hb dX0_loadHeldWith_68 hl (k := 2) rfl (kr_inc _) (by decide) rfl (fun ls hl => ?_)
        refine lv_goto (tgt := 18) hx hb dX0_loadHeldWith_71 (by decide) ?_
        exact ih (i + 1, kr_mn g (kr_lh A (kr_st A q i) 16 w 0)) ls ⟨by omega, he⟩ (by show kr_rc A q - (i + 1) < kr_rc A q - i; omega) (lv_sub hl [0, 1, 3, 4, 5, 6] rfl)
      · refine lv_iload hx hb dX0_loadHeldWith_29 (lv_at hl 0 rfl) ?_
        refine lv_iload_n hx hb dX0_loadHeldWith_31 rfl (lv_at hl 4 rfl) ?_
        refine lv_icmp_ne (tgt := 39) hx hb dX0_loadHeldWith_32 (by decide) (fun c32 => ?_) (fun c32 => ?_)
        · refine lv_aload_n hx hb dX0_loadHeldWith_39 rfl (lv_at hl 2 rfl) ?_
          refine va_get (ci := 0) (v := .ref (a 6)) (C := RX0) (T := TX0) (N := 10) hx hb hts kr_wsX0 hown hK hP 0 rfl rfl 8 (by decide) (hts _ kq_50) (fun _ h9 => h9) rfl dX0_loadHeldWith_40 ?_
          refine lv_iload_n hx hb dX0_loadHeldWith_43 rfl (lv_at hl 3 rfl) ?_
          refine lv_iload hx hb dX0_loadHeldWith_44 (lv_at hl 0 rfl) ?_
          refine kr_sI (n := 2) (As := [.int (nI q), .int (nI i)]) (rest := [.ref (a 6)]) ⟨hx, hb, hml, hown, hts⟩ (c_X0_slot l q i) kg_RX0_97 ⟨rfl, rfl⟩ (by decide +kernel) ⟨Nat.le_of_ble_eq_true rfl, Nat.le_of_ble_eq_true rfl⟩ ⟨kr_blT, fun U hU hW => ⟨rfl, trivial⟩⟩ rfl hl.1 rfl (Nat.le_of_ble_eq_true rfl) dX0_loadHeldWith_46 ⟨Nat.zero_le _, Nat.zero_le _⟩ (fun r9 e9 => ?_)
          subst e9
          refine kr_ald hx hb hK hP 7 0 rfl rfl (5 * q + i) (by omega) (by decide) dX0_loadHeldWith_49 ?_
          exact J _ (if_neg c32).symm
        · refine lv_iload_n hx hb dX0_loadHeldWith_35 rfl (lv_at hl 5 rfl) ?_
          refine lv_goto (tgt := 50) hx hb dX0_loadHeldWith_36 (by decide) ?_
          exact J _ (if_pos c32).symm
  · refine lv_iconst (v := 0) hx hb dX0_loadHeldWith_8 (by decide) ?_
    exact kr_eI hx hb hr hlocks rfl (if_pos (kr_if1 c5)).symm dX0_loadHeldWith_9
end
section
set_option maxHeartbeats 4000000 in
set_option maxRecDepth 100000 in
theorem c_X0_countOfKind (l : Launch) (D : va_G) (cy : ClassId) (h : Nat) (a : Nat → Nat) (N L : Nat) (A : Nat → Nat → Int32) (kd : Int32) (hN : N ≤ 16) : Met l yX0_countOfKind (Cond.code yX0_countOfKind cX0_countOfKind 4 (some .int) :: kr_all) ({ frames := 0, cells := 0, slots := 0, locals := 0 }) (va_Pc [.ref h, .int kd] (kr_R D (kr_W0 cy h a N L A) cy)) (vp_Si (fun r => r = nI (kr_cn A kd N))) 0 0 (fun _ => False) := by
  refine kr_of (by decide) (Nat.le_of_ble_eq_true rfl) ?_
  intro p e s m below meth c ls hx hb hml hr hts hown hlocks hin hv hl
  obtain ⟨hP, hK⟩ := hv
  have hown : s.vm.findClass RX0 = some m.cls := hown
  have hl : lv_has ls 4 [(0, .ref h), (1, .int kd)] := hl
  refine lv_iconst (v := 0) hx hb dX0_countOfKind_0 (by decide) ?_
  refine lv_istore_n (lv' := [(2, .int 0), (0, .ref h), (1, .int kd)]) hx hb dX0_countOfKind_1 rfl hl (by decide) rfl (fun ls hl => ?_)
  refine lv_iconst (v := 0) hx hb dX0_countOfKind_2 (by decide) ?_
  refine lv_istore_n (lv' := [(3, .int 0), (2, .int 0), (0, .ref h), (1, .int kd)]) hx hb dX0_countOfKind_3 rfl hl (by decide) rfl (fun ls hl => ?_)
  refine kr_lp (nL := 4) (fun z : Nat × Nat => [(3, .int (nI z.1)), (2, .int (nI z.2)), (0, .ref h), (1, .int kd)]) (fun z => z.1 ≤ N ∧ z.2 = kr_cn A kd z.1) (fun z => N - z.1) ?_ (0, 0) ⟨by omega, rfl⟩ (lv_sub hl [0, 1, 2, 3] rfl)
  clear hl
  intro z ls hI hl ih
  obtain ⟨i, g⟩ := z
  have hl : lv_has ls 4 [(3, .int (nI i)), (2, .int (nI g)), (0, .ref h), (1, .int kd)] := hl
  obtain ⟨hi0, hg⟩ : i ≤ N ∧ g = kr_cn A kd i := hI
  refine lv_iload_n hx hb dX0_countOfKind_4 rfl (lv_at hl 0 rfl) ?_
  refine lv_aload_n hx hb dX0_countOfKind_5 rfl (lv_at hl 2 rfl) ?_
  refine va_get (ci := 0) (v := .int (nI N)) (C := RX0) (T := TX0) (N := 10) hx hb hts kr_wsX0 hown hK hP 0 rfl rfl 5 (by decide) (hts _ kq_47) (fun _ h9 => h9) rfl dX0_countOfKind_6 ?_
  refine lv_icmp_ge (tgt := 31) hx hb dX0_countOfKind_9 (by decide) (fun c9 => ?_) (fun c9 => ?_)
  · have hi2 : i = N := by have := kr_ge (by omega) (by omega) c9; omega
    subst hi2
    subst hg
    refine lv_iload_n hx hb dX0_countOfKind_31 rfl (lv_at hl 1 rfl) ?_
    exact kr_eI hx hb hr hlocks rfl rfl dX0_countOfKind_32
  · have hi : i < N := kr_lt (by omega) (by omega) c9
    refine lv_aload_n hx hb dX0_countOfKind_12 rfl (lv_at hl 2 rfl) ?_
    refine va_get (ci := 0) (v := .ref (a 0)) (C := RX0) (T := TX0) (N := 10) hx hb hts kr_wsX0 hown hK hP 0 rfl rfl 0 (by decide) (hts _ kq_42) (fun _ h9 => h9) rfl dX0_countOfKind_13 ?_
    refine lv_iload_n hx hb dX0_countOfKind_16 rfl (lv_at hl 0 rfl) ?_
    refine kr_ald hx hb hK hP 1 0 rfl rfl i (by omega) (by decide) dX0_countOfKind_17 ?_
    refine lv_iload_n hx hb dX0_countOfKind_18 rfl (lv_at hl 3 rfl) ?_
    refine lv_icmp_ne (tgt := 25) hx hb dX0_countOfKind_19 (by decide) (fun c19 => ?_) (fun c19 => ?_)
    · refine lv_iinc (v := nI (i + 1)) (lv' := [(3, .int (nI (i + 1))), (2, .int (nI g)), (0, .ref h), (1, .int kd)]) hx hb dX0_countOfKind_25 hl (k := 0) rfl (kr_inc _) (by decide) rfl (fun ls hl => ?_)
      refine lv_goto (tgt := 4) hx hb dX0_countOfKind_28 (by decide) ?_
      exact ih (i + 1, g) ls ⟨by omega, by rw [hg, kr_cn_s, if_neg c19]; rfl⟩ (by show N - (i + 1) < N - i; omega) (lv_sub hl [0, 1, 2, 3] rfl)
    · refine lv_iinc (v := nI (g + 1)) (lv' := [(2, .int (nI (g + 1))), (3, .int (nI i)), (0, .ref h), (1, .int kd)]) hx hb dX0_countOfKind_22 hl (k := 1) rfl (kr_inc _) (by decide) rfl (fun ls hl => ?_)
      refine lv_iinc (v := nI (i + 1)) (lv' := [(3, .int (nI (i + 1))), (2, .int (nI (g + 1))), (0, .ref h), (1, .int kd)]) hx hb dX0_countOfKind_25 hl (k := 1) rfl (kr_inc _) (by decide) rfl (fun ls hl => ?_)
      refine lv_goto (tgt := 4) hx hb dX0_countOfKind_28 (by decide) ?_
      exact ih (i + 1, g + 1) ls ⟨by omega, by rw [hg, kr_cn_s, if_pos c19]⟩ (by show N - (i + 1) < N - i; omega) (lv_sub hl [0, 1, 2, 3] rfl)
set_option maxHeartbeats 4000000 in
set_option maxRecDepth 100000 in
theorem c_X0_isAheadOf (l : Launch) (D : va_G) (cy : ClassId) (h : Nat) (a : Nat → Nat) (N L : Nat) (A : Nat → Nat → Int32) (j k : Nat) (hj : j < 16) (hk : k < 16) : Met l yX0_isAheadOf (Cond.code yX0_isAheadOf cX0_isAheadOf 3 (some .boolean) :: kr_all) ({ frames := 0, cells := 0, slots := 0, locals := 0 }) (va_Pc [.ref h, .int (nI j), .int (nI k)] (kr_R D (kr_W0 cy h a N L A) cy)) (vp_Si (fun r => r = if kr_ia A j k then 1 else 0)) 0 0 (fun _ => False) := by
  refine kr_of (by decide) (Nat.le_of_ble_eq_true rfl) ?_
  intro p e s m below meth c ls hx hb hml hr hts hown hlocks hin hv hl
  obtain ⟨hP, hK⟩ := hv
  have hown : s.vm.findClass RX0 = some m.cls := hown
  have hl : lv_has ls 3 [(0, .ref h), (1, .int (nI j)), (2, .int (nI k))] := hl
  refine lv_aload_n hx hb dX0_isAheadOf_0 rfl (lv_at hl 0 rfl) ?_
  refine va_get (ci := 0) (v := .ref (a 1)) (C := RX0) (T := TX0) (N := 10) hx hb hts kr_wsX0 hown hK hP 0 rfl rfl 1 (by decide) (hts _ kq_43) (fun _ h9 => h9) rfl dX0_isAheadOf_1 ?_
  refine lv_iload_n hx hb dX0_isAheadOf_4 rfl (lv_at hl 1 rfl) ?_
  refine kr_ald hx hb hK hP 2 0 rfl rfl j (by omega) (by decide) dX0_isAheadOf_5 ?_
  refine lv_aload_n hx hb dX0_isAheadOf_6 rfl (lv_at hl 0 rfl) ?_
  refine va_get (ci := 0) (v := .ref (a 1)) (C := RX0) (T := TX0) (N := 10) hx hb hts kr_wsX0 hown hK hP 0 rfl rfl 1 (by decide) (hts _ kq_43) (fun _ h9 => h9) rfl dX0_isAheadOf_7 ?_
  refine lv_iload_n hx hb dX0_isAheadOf_10 rfl (lv_at hl 2 rfl) ?_
  refine kr_ald hx hb hK hP 2 0 rfl rfl k (by omega) (by decide) dX0_isAheadOf_11 ?_
  refine lv_icmp_eq (tgt := 36) hx hb dX0_isAheadOf_12 (by decide) (fun c12 => ?_) (fun c12 => ?_)
  · refine lv_aload_n hx hb dX0_isAheadOf_36 rfl (lv_at hl 0 rfl) ?_
    refine va_get (ci := 0) (v := .ref (a 2)) (C := RX0) (T := TX0) (N := 10) hx hb hts kr_wsX0 hown hK hP 0 rfl rfl 2 (by decide) (hts _ kq_44) (fun _ h9 => h9) rfl dX0_isAheadOf_37 ?_
    refine lv_iload_n hx hb dX0_isAheadOf_40 rfl (lv_at hl 1 rfl) ?_
    refine kr_ald hx hb hK hP 3 0 rfl rfl j (by omega) (by decide) dX0_isAheadOf_41 ?_
    refine lv_aload_n hx hb dX0_isAheadOf_42 rfl (lv_at hl 0 rfl) ?_
    refine va_get (ci := 0) (v := .ref (a 2)) (C := RX0) (T := TX0) (N := 10) hx hb hts kr_wsX0 hown hK hP 0 rfl rfl 2 (by decide) (hts _ kq_44) (fun _ h9 => h9) rfl dX0_isAheadOf_43 ?_
    refine lv_iload_n hx hb dX0_isAheadOf_46 rfl (lv_at hl 2 rfl) ?_
    refine kr_ald hx hb hK hP 3 0 rfl rfl k (by omega) (by decide) dX0_isAheadOf_47 ?_
    refine lv_icmp_eq (tgt := 72) hx hb dX0_isAheadOf_48 (by decide) (fun c48 => ?_) (fun c48 => ?_)
    · refine lv_iload_n hx hb dX0_isAheadOf_72 rfl (lv_at hl 1 rfl) ?_
      refine lv_iload_n hx hb dX0_isAheadOf_73 rfl (lv_at hl 2 rfl) ?_
      refine lv_icmp_ge (tgt := 81) hx hb dX0_isAheadOf_74 (by decide) (fun c74 => ?_) (fun c74 => ?_)
      · refine lv_iconst (v := 0) hx hb dX0_isAheadOf_81 (by decide) ?_
        exact kr_eZ hx hb hr hlocks rfl (Or.inl rfl) (if_neg (by unfold kr_ia; rw [if_pos c12, if_pos c48]; have := kr_ge (by omega) (by omega) c74; omega)).symm dX0_isAheadOf_82
      · refine lv_iconst (v := 1) hx hb dX0_isAheadOf_77 (by decide) ?_
        refine lv_goto (tgt := 82) hx hb dX0_isAheadOf_78 (by decide) ?_
        exact kr_eZ hx hb hr hlocks rfl (Or.inr rfl) (if_pos (by unfold kr_ia; rw [if_pos c12, if_pos c48]; exact kr_lt (by omega) (by omega) c74)).symm dX0_isAheadOf_82
    · refine lv_aload_n hx hb dX0_isAheadOf_51 rfl (lv_at hl 0 rfl) ?_
      refine va_get (ci := 0) (v := .ref (a 2)) (C := RX0) (T := TX0) (N := 10) hx hb hts kr_wsX0 hown hK hP 0 rfl rfl 2 (by decide) (hts _ kq_44) (fun _ h9 => h9) rfl dX0_isAheadOf_52 ?_
      refine lv_iload_n hx hb dX0_isAheadOf_55 rfl (lv_at hl 1 rfl) ?_
      refine kr_ald hx hb hK hP 3 0 rfl rfl j (by omega) (by decide) dX0_isAheadOf_56 ?_
      refine lv_aload_n hx hb dX0_isAheadOf_57 rfl (lv_at hl 0 rfl) ?_
      refine va_get (ci := 0) (v := .ref (a 2)) (C := RX0) (T := TX0) (N := 10) hx hb hts kr_wsX0 hown hK hP 0 rfl rfl 2 (by decide) (hts _ kq_44) (fun _ h9 => h9) rfl dX0_isAheadOf_58 ?_
      refine lv_iload_n hx hb dX0_isAheadOf_61 rfl (lv_at hl 2 rfl) ?_
      refine kr_ald hx hb hK hP 3 0 rfl rfl k (by omega) (by decide) dX0_isAheadOf_62 ?_
      refine lv_icmp_ge (tgt := 70) hx hb dX0_isAheadOf_63 (by decide) (fun c63 => ?_) (fun c63 => ?_)
      · refine lv_iconst (v := 0) hx hb dX0_isAheadOf_70 (by decide) ?_
        exact kr_eZ hx hb hr hlocks rfl (Or.inl rfl) (if_neg (by unfold kr_ia; rw [if_pos c12, if_neg c48]; exact kr_ngt2 c63)).symm dX0_isAheadOf_71
      · refine lv_iconst (v := 1) hx hb dX0_isAheadOf_66 (by decide) ?_
        refine lv_goto (tgt := 71) hx hb dX0_isAheadOf_67 (by decide) ?_
        exact kr_eZ hx hb hr hlocks rfl (Or.inr rfl) (if_pos (by unfold kr_ia; rw [if_pos c12, if_neg c48]; exact kr_nle2 c63)).symm dX0_isAheadOf_71
  · refine lv_aload_n hx hb dX0_isAheadOf_15 rfl (lv_at hl 0 rfl) ?_
    refine va_get (ci := 0) (v := .ref (a 1)) (C := RX0) (T := TX0) (N := 10) hx hb hts kr_wsX0 hown hK hP 0 rfl rfl 1 (by decide) (hts _ kq_43) (fun _ h9 => h9) rfl dX0_isAheadOf_16 ?_
    refine lv_iload_n hx hb dX0_isAheadOf_19 rfl (lv_at hl 1 rfl) ?_
    refine kr_ald hx hb hK hP 2 0 rfl rfl j (by omega) (by decide) dX0_isAheadOf_20 ?_
    refine lv_aload_n hx hb dX0_isAheadOf_21 rfl (lv_at hl 0 rfl) ?_
    refine va_get (ci := 0) (v := .ref (a 1)) (C := RX0) (T := TX0) (N := 10) hx hb hts kr_wsX0 hown hK hP 0 rfl rfl 1 (by decide) (hts _ kq_43) (fun _ h9 => h9) rfl dX0_isAheadOf_22 ?_
    refine lv_iload_n hx hb dX0_isAheadOf_25 rfl (lv_at hl 2 rfl) ?_
    refine kr_ald hx hb hK hP 2 0 rfl rfl k (by omega) (by decide) dX0_isAheadOf_26 ?_
    refine lv_icmp_le (tgt := 34) hx hb dX0_isAheadOf_27 (by decide) (fun c27 => ?_) (fun c27 => ?_)
    · refine lv_iconst (v := 0) hx hb dX0_isAheadOf_34 (by decide) ?_
      exact kr_eZ hx hb hr hlocks rfl (Or.inl rfl) (if_neg (by unfold kr_ia; rw [if_neg c12]; exact kr_ngt2 c27)).symm dX0_isAheadOf_35
    · refine lv_iconst (v := 1) hx hb dX0_isAheadOf_30 (by decide) ?_
      refine lv_goto (tgt := 35) hx hb dX0_isAheadOf_31 (by decide) ?_
      exact kr_eZ hx hb hr hlocks rfl (Or.inr rfl) (if_pos (by unfold kr_ia; rw [if_neg c12]; exact kr_nle2 c27)).symm dX0_isAheadOf_35
theorem kg_RX0_217 : GoodIn kr_all (wsV RX0 217 RX0 yX0_isAheadOf (Cond.code yX0_isAheadOf cX0_isAheadOf 3 (some .boolean) :: kr_all)) := kr_gV kq_285 kq_287 kq_15 kq_25 kq_288
set_option maxHeartbeats 4000000 in
set_option maxRecDepth 100000 in
theorem c_X0_rankInKind (l : Launch) (D : va_G) (cy : ClassId) (h : Nat) (a : Nat → Nat) (N L : Nat) (A : Nat → Nat → Int32) (k : Nat) (hN : N ≤ 16) (hk : k < N) : Met l yX0_rankInKind (Cond.code yX0_rankInKind cX0_rankInKind 4 (some .int) :: kr_all) ({ frames := 1, cells := 0, slots := 0, locals := 22 }) (va_Pc [.ref h, .int (nI k)] (kr_R D (kr_W0 cy h a N L A) cy)) (vp_Si (fun r => r = nI (kr_rk A k N))) 0 0 (fun _ => False) := by
  refine kr_of (by decide) (Nat.le_of_ble_eq_true rfl) ?_
  intro p e s m below meth c ls hx hb hml hr hts hown hlocks hin hv hl
  obtain ⟨hP, hK⟩ := hv
  have hown : s.vm.findClass RX0 = some m.cls := hown
  have hl : lv_has ls 4 [(0, .ref h), (1, .int (nI k))] := hl
  refine lv_iconst (v := 0) hx hb dX0_rankInKind_0 (by decide) ?_
  refine lv_istore_n (lv' := [(2, .int 0), (0, .ref h), (1, .int (nI k))]) hx hb dX0_rankInKind_1 rfl hl (by decide) rfl (fun ls hl => ?_)
  refine lv_iconst (v := 0) hx hb dX0_rankInKind_2 (by decide) ?_
  refine lv_istore_n (lv' := [(3, .int 0), (2, .int 0), (0, .ref h), (1, .int (nI k))]) hx hb dX0_rankInKind_3 rfl hl (by decide) rfl (fun ls hl => ?_)
  refine kr_lp (nL := 4) (fun z : Nat × Nat => [(3, .int (nI z.1)), (2, .int (nI z.2)), (0, .ref h), (1, .int (nI k))]) (fun z => z.1 ≤ N ∧ z.2 = kr_rk A k z.1) (fun z => N - z.1) ?_ (0, 0) ⟨by omega, rfl⟩ (lv_sub hl [0, 1, 2, 3] rfl)
  clear hl
  intro z ls hI hl ih
  obtain ⟨i, g⟩ := z
  have hl : lv_has ls 4 [(3, .int (nI i)), (2, .int (nI g)), (0, .ref h), (1, .int (nI k))] := hl
  obtain ⟨hi0, hg⟩ : i ≤ N ∧ g = kr_rk A k i := hI
  refine lv_iload_n hx hb dX0_rankInKind_4 rfl (lv_at hl 0 rfl) ?_
  refine lv_aload_n hx hb dX0_rankInKind_5 rfl (lv_at hl 2 rfl) ?_
  refine va_get (ci := 0) (v := .int (nI N)) (C := RX0) (T := TX0) (N := 10) hx hb hts kr_wsX0 hown hK hP 0 rfl rfl 5 (by decide) (hts _ kq_47) (fun _ h9 => h9) rfl dX0_rankInKind_6 ?_
  refine lv_icmp_ge (tgt := 45) hx hb dX0_rankInKind_9 (by decide) (fun c9 => ?_) (fun c9 => ?_)
  · have hi2 : i = N := by have := kr_ge (by omega) (by omega) c9; omega
    subst hi2
    subst hg
    refine lv_iload_n hx hb dX0_rankInKind_45 rfl (lv_at hl 1 rfl) ?_
    exact kr_eI hx hb hr hlocks rfl rfl dX0_rankInKind_46
  · have hi : i < N := kr_lt (by omega) (by omega) c9
    refine lv_aload_n hx hb dX0_rankInKind_12 rfl (lv_at hl 2 rfl) ?_
    refine va_get (ci := 0) (v := .ref (a 0)) (C := RX0) (T := TX0) (N := 10) hx hb hts kr_wsX0 hown hK hP 0 rfl rfl 0 (by decide) (hts _ kq_42) (fun _ h9 => h9) rfl dX0_rankInKind_13 ?_
    refine lv_iload_n hx hb dX0_rankInKind_16 rfl (lv_at hl 0 rfl) ?_
    refine kr_ald hx hb hK hP 1 0 rfl rfl i (by omega) (by decide) dX0_rankInKind_17 ?_
    refine lv_aload_n hx hb dX0_rankInKind_18 rfl (lv_at hl 2 rfl) ?_
    refine va_get (ci := 0) (v := .ref (a 0)) (C := RX0) (T := TX0) (N := 10) hx hb hts kr_wsX0 hown hK hP 0 rfl rfl 0 (by decide) (hts _ kq_42) (fun _ h9 => h9) rfl dX0_rankInKind_19 ?_
    refine lv_iload_n hx hb dX0_rankInKind_22 rfl (lv_at hl 3 rfl) ?_
    refine kr_ald hx hb hK hP 1 0 rfl rfl k (by omega) (by decide) dX0_rankInKind_23 ?_
    refine lv_icmp_ne (tgt := 39) hx hb dX0_rankInKind_24 (by decide) (fun c24 => ?_) (fun c24 => ?_)
    · refine lv_iinc (v := nI (i + 1)) (lv' := [(3, .int (nI (i + 1))), (2, .int (nI g)), (0, .ref h), (1, .int (nI k))]) hx hb dX0_rankInKind_39 hl (k := 0) rfl (kr_inc _) (by decide) rfl (fun ls hl => ?_)
      refine lv_goto (tgt := 4) hx hb dX0_rankInKind_42 (by decide) ?_
      exact ih (i + 1, g) ls ⟨by omega, by rw [hg, kr_rk_s, if_neg (fun z => c24 z.1)]; rfl⟩ (by show N - (i + 1) < N - i; omega) (lv_sub hl [0, 1, 2, 3] rfl)
    · refine lv_aload_n hx hb dX0_rankInKind_27 rfl (lv_at hl 2 rfl) ?_
      refine lv_iload_n hx hb dX0_rankInKind_28 rfl (lv_at hl 0 rfl) ?_
      refine lv_iload_n hx hb dX0_rankInKind_29 rfl (lv_at hl 3 rfl) ?_
      refine kr_vI (n := 2) (As := [.int (nI i), .int (nI k)]) (rest := []) ⟨hx, hb, hml, hown, hts⟩ (c_X0_isAheadOf l D cy h a N L A i k (by omega) (by omega)) kg_RX0_217 ⟨rfl, rfl⟩ (by decide +kernel) ⟨Nat.le_of_ble_eq_true rfl, Nat.le_of_ble_eq_true rfl⟩ (kr_pv0 hP hK) rfl hl.1 rfl (Nat.le_of_ble_eq_true rfl) dX0_rankInKind_30 ⟨Nat.zero_le _, Nat.zero_le _⟩ (fun r9 e9 => ?_)
      subst e9
      refine lv_if_eq (tgt := 39) hx hb dX0_rankInKind_33 (by decide) (fun c33 => ?_) (fun c33 => ?_)
      · refine lv_iinc (v := nI (i + 1)) (lv' := [(3, .int (nI (i + 1))), (2, .int (nI g)), (0, .ref h), (1, .int (nI k))]) hx hb dX0_rankInKind_39 hl (k := 0) rfl (kr_inc _) (by decide) rfl (fun ls hl => ?_)
        refine lv_goto (tgt := 4) hx hb dX0_rankInKind_42 (by decide) ?_
        exact ih (i + 1, g) ls ⟨by omega, by rw [hg, kr_rk_s, if_neg (fun z => kr_if0 c33 z.2)]; rfl⟩ (by show N - (i + 1) < N - i; omega) (lv_sub hl [0, 1, 2, 3] rfl)
      · refine lv_iinc (v := nI (g + 1)) (lv' := [(2, .int (nI (g + 1))), (3, .int (nI i)), (0, .ref h), (1, .int (nI k))]) hx hb dX0_rankInKind_36 hl (k := 1) rfl (kr_inc _) (by decide) rfl (fun ls hl => ?_)
        refine lv_iinc (v := nI (i + 1)) (lv' := [(3, .int (nI (i + 1))), (2, .int (nI (g + 1))), (0, .ref h), (1, .int (nI k))]) hx hb dX0_rankInKind_39 hl (k := 1) rfl (kr_inc _) (by decide) rfl (fun ls hl => ?_)
        refine lv_goto (tgt := 4) hx hb dX0_rankInKind_42 (by decide) ?_
        exact ih (i + 1, g + 1) ls ⟨by omega, by rw [hg, kr_rk_s, if_pos ⟨c24, kr_if1 c33⟩]⟩ (by show N - (i + 1) < N - i; omega) (lv_sub hl [0, 1, 2, 3] rfl)
theorem kg_RX0_110 : GoodIn kr_all (wsV RX0 110 RX0 yX0_rankInKind (Cond.code yX0_rankInKind cX0_rankInKind 4 (some .int) :: kr_all)) := kr_gV kq_281 kq_283 kq_14 kq_25 kq_284
set_option maxHeartbeats 4000000 in
set_option maxRecDepth 100000 in
theorem c_X0_knotWithRank (l : Launch) (D : va_G) (cy : ClassId) (h : Nat) (a : Nat → Nat) (N L : Nat) (A : Nat → Nat → Int32) (kd rk : Int32) (hN : N ≤ 16) : Met l yX0_knotWithRank (Cond.code yX0_knotWithRank cX0_knotWithRank 4 (some .int) :: kr_all) ({ frames := 2, cells := 0, slots := 0, locals := 45 }) (va_Pc [.ref h, .int kd, .int rk] (kr_R D (kr_W0 cy h a N L A) cy)) (vp_Si (fun r => r = kr_kw A N kd rk N 0)) 0 0 (fun _ => False) := by
  refine kr_of (by decide) (Nat.le_of_ble_eq_true rfl) ?_
  intro p e s m below meth c ls hx hb hml hr hts hown hlocks hin hv hl
  obtain ⟨hP, hK⟩ := hv
  have hown : s.vm.findClass RX0 = some m.cls := hown
  have hl : lv_has ls 4 [(0, .ref h), (1, .int kd), (2, .int rk)] := hl
  refine lv_iconst (v := 0) hx hb dX0_knotWithRank_0 (by decide) ?_
  refine lv_istore_n (lv' := [(3, .int 0), (0, .ref h), (1, .int kd), (2, .int rk)]) hx hb dX0_knotWithRank_1 rfl hl (by decide) rfl (fun ls hl => ?_)
  refine kr_lp (nL := 4) (fun z : Nat => [(3, .int (nI z)), (0, .ref h), (1, .int kd), (2, .int rk)]) (fun z => z ≤ N ∧ kr_kw A N kd rk (N - z) z = kr_kw A N kd rk N 0) (fun z => N - z) ?_ (0) ⟨by omega, rfl⟩ (lv_sub hl [0, 1, 2, 3] rfl)
  clear hl
  intro z ls hI hl ih
  obtain ⟨i, rfl⟩ : ∃ y, y = z := ⟨_, rfl⟩
  have hl : lv_has ls 4 [(3, .int (nI i)), (0, .ref h), (1, .int kd), (2, .int rk)] := hl
  obtain ⟨hi0, he⟩ : i ≤ N ∧ kr_kw A N kd rk (N - i) i = kr_kw A N kd rk N 0 := hI
  refine lv_iload_n hx hb dX0_knotWithRank_2 rfl (lv_at hl 0 rfl) ?_
  refine lv_aload_n hx hb dX0_knotWithRank_3 rfl (lv_at hl 1 rfl) ?_
  refine va_get (ci := 0) (v := .int (nI N)) (C := RX0) (T := TX0) (N := 10) hx hb hts kr_wsX0 hown hK hP 0 rfl rfl 5 (by decide) (hts _ kq_47) (fun _ h9 => h9) rfl dX0_knotWithRank_4 ?_
  refine lv_icmp_ge (tgt := 37) hx hb dX0_knotWithRank_7 (by decide) (fun c7 => ?_) (fun c7 => ?_)
  · have hi2 : i = N := by have := kr_ge (by omega) (by omega) c7; omega
    subst hi2
    refine lv_iconst (v := -1) hx hb dX0_knotWithRank_37 (by decide) ?_
    exact kr_eI hx hb hr hlocks rfl (by rw [Nat.sub_self] at he; exact he) dX0_knotWithRank_38
  · have hi : i < N := kr_lt (by omega) (by omega) c7
    refine lv_aload_n hx hb dX0_knotWithRank_10 rfl (lv_at hl 1 rfl) ?_
    refine va_get (ci := 0) (v := .ref (a 0)) (C := RX0) (T := TX0) (N := 10) hx hb hts kr_wsX0 hown hK hP 0 rfl rfl 0 (by decide) (hts _ kq_42) (fun _ h9 => h9) rfl dX0_knotWithRank_11 ?_
    refine lv_iload_n hx hb dX0_knotWithRank_14 rfl (lv_at hl 0 rfl) ?_
    refine kr_ald hx hb hK hP 1 0 rfl rfl i (by omega) (by decide) dX0_knotWithRank_15 ?_
    refine lv_iload_n hx hb dX0_knotWithRank_16 rfl (lv_at hl 2 rfl) ?_
    refine lv_icmp_ne (tgt := 31) hx hb dX0_knotWithRank_17 (by decide) (fun c17 => ?_) (fun c17 => ?_)
    · refine lv_iinc (v := nI (i + 1)) (lv' := [(3, .int (nI (i + 1))), (0, .ref h), (1, .int kd), (2, .int rk)]) hx hb dX0_knotWithRank_31 hl (k := 0) rfl (kr_inc _) (by decide) rfl (fun ls hl => ?_)
      refine lv_goto (tgt := 2) hx hb dX0_knotWithRank_34 (by decide) ?_
      exact ih (i + 1) ls ⟨by omega, (kr_kw_s hi (fun z => c17 z.1)).symm.trans he⟩ (by show N - (i + 1) < N - i; omega) (lv_sub hl [0, 1, 2, 3] rfl)
    · refine lv_aload_n hx hb dX0_knotWithRank_20 rfl (lv_at hl 1 rfl) ?_
      refine lv_iload_n hx hb dX0_knotWithRank_21 rfl (lv_at hl 0 rfl) ?_
      refine kr_vI (n := 1) (As := [.int (nI i)]) (rest := []) ⟨hx, hb, hml, hown, hts⟩ (c_X0_rankInKind l D cy h a N L A i (by omega) (by omega)) kg_RX0_110 ⟨rfl, rfl⟩ (by decide +kernel) ⟨Nat.le_of_ble_eq_true rfl, Nat.le_of_ble_eq_true rfl⟩ (kr_pv0 hP hK) rfl hl.1 rfl (Nat.le_of_ble_eq_true rfl) dX0_knotWithRank_22 ⟨Nat.zero_le _, Nat.zero_le _⟩ (fun r9 e9 => ?_)
      subst e9
      refine lv_iload_n hx hb dX0_knotWithRank_25 rfl (lv_at hl 3 rfl) ?_
      refine lv_icmp_ne (tgt := 31) hx hb dX0_knotWithRank_26 (by decide) (fun c26 => ?_) (fun c26 => ?_)
      · refine lv_iinc (v := nI (i + 1)) (lv' := [(3, .int (nI (i + 1))), (0, .ref h), (1, .int kd), (2, .int rk)]) hx hb dX0_knotWithRank_31 hl (k := 0) rfl (kr_inc _) (by decide) rfl (fun ls hl => ?_)
        refine lv_goto (tgt := 2) hx hb dX0_knotWithRank_34 (by decide) ?_
        exact ih (i + 1) ls ⟨by omega, (kr_kw_s hi (fun z => c26 z.2)).symm.trans he⟩ (by show N - (i + 1) < N - i; omega) (lv_sub hl [0, 1, 2, 3] rfl)
      · refine lv_iload_n hx hb dX0_knotWithRank_29 rfl (lv_at hl 0 rfl) ?_
        exact kr_eI hx hb hr hlocks rfl ((kr_kw_y hi ⟨c17, c26⟩).symm.trans he) dX0_knotWithRank_30
set_option maxHeartbeats 4000000 in
set_option maxRecDepth 100000 in
theorem c_X0_digestWith (l : Launch) (d0 : Int64) (x : Int32) : Met l yX0_digestWith (Cond.code yX0_digestWith cX0_digestWith 3 (some .long) :: kr_all) ({ frames := 0, cells := 0, slots := 0, locals := 0 }) (va_Pc [.long d0, .int x] (fun _ => True)) (vp_Sl (fun r => r = kr_dw d0 x)) 0 0 (fun _ => False) := by
  refine kr_of (by decide) (Nat.le_of_ble_eq_true rfl) ?_
  intro p e s m below meth c ls hx hb hml hr hts hown hlocks hin hv hl
  have hown : s.vm.findClass RX0 = some m.cls := hown
  have hl : lv_has ls 3 [(0, .long d0), (2, .int x)] := hl
  refine lv_lload_n hx hb dX0_digestWith_0 rfl (lv_at hl 0 rfl) ?_
  refine lv_ldc2 (v := 31) hx hb hown (hts _ kq_375) dX0_digestWith_1 ?_
  refine lv_lmul hx hb dX0_digestWith_4 ?_
  refine lv_iload_n hx hb dX0_digestWith_5 rfl (lv_at hl 1 rfl) ?_
  refine lv_i2l (v := x.toInt64) hx hb dX0_digestWith_6 rfl ?_
  refine lv_ladd hx hb dX0_digestWith_7 ?_
  exact kr_eL hx hb hr hlocks rfl rfl dX0_digestWith_8
set_option maxHeartbeats 4000000 in
set_option maxRecDepth 100000 in
theorem c_X0_checkKind (l : Launch) (x : Int32) (hx0 : x = 0 ∨ x = 1) : Met l yX0_checkKind (Cond.code yX0_checkKind cX0_checkKind 1 none :: kr_all) ({ frames := 0, cells := 0, slots := 0, locals := 0 }) (va_Pc [.int x] (fun _ => True)) (va_Sv (fun _ => True)) 0 0 (fun _ => False) := by
  refine kr_of (by decide) (Nat.le_of_ble_eq_true rfl) ?_
  intro p e s m below meth c ls hx hb hml hr hts hown hlocks hin hv hl
  have hown : s.vm.findClass RX0 = some m.cls := hown
  have hl : lv_has ls 1 [(0, .int x)] := hl
  refine lv_iload_n hx hb dX0_checkKind_0 rfl (lv_at hl 0 rfl) ?_
  refine lv_if_eq (tgt := 19) hx hb dX0_checkKind_1 (by decide) (fun c1 => ?_) (fun c1 => ?_)
  · exact kr_eV hx hb hr hlocks rfl trivial dX0_checkKind_19
  · refine lv_iload_n hx hb dX0_checkKind_4 rfl (lv_at hl 0 rfl) ?_
    refine lv_iconst (v := 1) hx hb dX0_checkKind_5 (by decide) ?_
    refine lv_icmp_eq (tgt := 19) hx hb dX0_checkKind_6 (by decide) (fun c6 => ?_) (fun c6 => absurd (hx0.resolve_left c1) c6)
    exact kr_eV hx hb hr hlocks rfl trivial dX0_checkKind_19
set_option maxHeartbeats 4000000 in
set_option maxRecDepth 100000 in
theorem c_X0_checkKnot (l : Launch) (D : va_G) (cy : ClassId) (h : Nat) (a : Nat → Nat) (N L : Nat) (A : Nat → Nat → Int32) (k : Nat) (hN : N ≤ 16) (hk : k < N) : Met l yX0_checkKnot (Cond.code yX0_checkKnot cX0_checkKnot 2 none :: kr_all) ({ frames := 1, cells := 0, slots := 0, locals := 21 }) (va_Pc [.ref h, .int (nI k)] (kr_R D (kr_W0 cy h a N L A) cy)) (va_Sv (fun _ => True)) 0 0 (fun _ => False) := by
  refine kr_of (by decide) (Nat.le_of_ble_eq_true rfl) ?_
  intro p e s m below meth c ls hx hb hml hr hts hown hlocks hin hv hl
  obtain ⟨hP, hK⟩ := hv
  have hown : s.vm.findClass RX0 = some m.cls := hown
  have hl : lv_has ls 2 [(0, .ref h), (1, .int (nI k))] := hl
  refine lv_aload_n hx hb dX0_checkKnot_0 rfl (lv_at hl 0 rfl) ?_
  refine lv_iload_n hx hb dX0_checkKnot_1 rfl (lv_at hl 1 rfl) ?_
  refine kr_vI (n := 1) (As := [.int (nI k)]) (rest := []) ⟨hx, hb, hml, hown, hts⟩ (c_X0_isKnot l D cy h a N L A (nI k)) kg_RX0_125 ⟨rfl, rfl⟩ (by decide +kernel) ⟨Nat.le_of_ble_eq_true rfl, Nat.le_of_ble_eq_true rfl⟩ (kr_pv0 hP hK) rfl hl.1 rfl (Nat.le_of_ble_eq_true rfl) dX0_checkKnot_2 ⟨Nat.zero_le _, Nat.zero_le _⟩ (fun r9 e9 => ?_)
  subst e9
  refine lv_if_ne (tgt := 18) hx hb dX0_checkKnot_5 (by decide) (fun c5 => ?_) (fun c5 => absurd (show ¬ nI k < 0 ∧ ¬ nI N ≤ nI k from ⟨nI_pos (by omega), nI_ge hk (by omega)⟩) (kr_if0 c5))
  exact kr_eV hx hb hr hlocks rfl trivial dX0_checkKnot_18
set_option maxHeartbeats 4000000 in
set_option maxRecDepth 100000 in
theorem c_X0_checkOfKind (l : Launch) (D : va_G) (cy : ClassId) (h : Nat) (a : Nat → Nat) (N L : Nat) (A : Nat → Nat → Int32) (k : Nat) (kd : Int32) (hk : k < 16) (he : A 0 k = kd) : Met l yX0_checkOfKind (Cond.code yX0_checkOfKind cX0_checkOfKind 3 none :: kr_all) ({ frames := 0, cells := 0, slots := 0, locals := 0 }) (va_Pc [.ref h, .int (nI k), .int kd] (kr_R D (kr_W0 cy h a N L A) cy)) (va_Sv (fun _ => True)) 0 0 (fun _ => False) := by
  refine kr_of (by decide) (Nat.le_of_ble_eq_true rfl) ?_
  intro p e s m below meth c ls hx hb hml hr hts hown hlocks hin hv hl
  obtain ⟨hP, hK⟩ := hv
  have hown : s.vm.findClass RX0 = some m.cls := hown
  have hl : lv_has ls 3 [(0, .ref h), (1, .int (nI k)), (2, .int kd)] := hl
  refine lv_aload_n hx hb dX0_checkOfKind_0 rfl (lv_at hl 0 rfl) ?_
  refine va_get (ci := 0) (v := .ref (a 0)) (C := RX0) (T := TX0) (N := 10) hx hb hts kr_wsX0 hown hK hP 0 rfl rfl 0 (by decide) (hts _ kq_42) (fun _ h9 => h9) rfl dX0_checkOfKind_1 ?_
  refine lv_iload_n hx hb dX0_checkOfKind_4 rfl (lv_at hl 1 rfl) ?_
  refine kr_ald hx hb hK hP 1 0 rfl rfl k (by omega) (by decide) dX0_checkOfKind_5 ?_
  refine lv_iload_n hx hb dX0_checkOfKind_6 rfl (lv_at hl 2 rfl) ?_
  refine lv_icmp_eq (tgt := 20) hx hb dX0_checkOfKind_7 (by decide) (fun c7 => ?_) (fun c7 => absurd he c7)
  exact kr_eV hx hb hr hlocks rfl trivial dX0_checkOfKind_20
set_option maxHeartbeats 4000000 in
set_option maxRecDepth 100000 in
theorem c_X0_checkLoad (l : Launch) (x : Int32) (hx0 : ¬ x < 1 ∧ ¬ 999 < x) : Met l yX0_checkLoad (Cond.code yX0_checkLoad cX0_checkLoad 1 none :: kr_all) ({ frames := 0, cells := 0, slots := 0, locals := 0 }) (va_Pc [.int x] (fun _ => True)) (va_Sv (fun _ => True)) 0 0 (fun _ => False) := by
  refine kr_of (by decide) (Nat.le_of_ble_eq_true rfl) ?_
  intro p e s m below meth c ls hx hb hml hr hts hown hlocks hin hv hl
  have hown : s.vm.findClass RX0 = some m.cls := hown
  have hl : lv_has ls 1 [(0, .int x)] := hl
  refine lv_iload_n hx hb dX0_checkLoad_0 rfl (lv_at hl 0 rfl) ?_
  refine lv_iconst (v := 1) hx hb dX0_checkLoad_1 (by decide) ?_
  refine lv_icmp_lt (tgt := 12) hx hb dX0_checkLoad_2 (by decide) (fun c2 => absurd c2 hx0.1) (fun c2 => ?_)
  refine lv_iload_n hx hb dX0_checkLoad_5 rfl (lv_at hl 0 rfl) ?_
  refine lv_sipush (v := 999) hx hb dX0_checkLoad_6 (by decide) ?_
  refine lv_icmp_le (tgt := 22) hx hb dX0_checkLoad_9 (by decide) (fun c9 => ?_) (fun c9 => absurd (kr_nle2 c9) hx0.2)
  exact kr_eV hx hb hr hlocks rfl trivial dX0_checkLoad_22
set_option maxHeartbeats 4000000 in
set_option maxRecDepth 100000 in
theorem c_X0_checkStrength (l : Launch) (x : Int32) (hx0 : ¬ x < 1 ∧ ¬ 999 < x) : Met l yX0_checkStrength (Cond.code yX0_checkStrength cX0_checkStrength 1 none :: kr_all) ({ frames := 0, cells := 0, slots := 0, locals := 0 }) (va_Pc [.int x] (fun _ => True)) (va_Sv (fun _ => True)) 0 0 (fun _ => False) := by
  refine kr_of (by decide) (Nat.le_of_ble_eq_true rfl) ?_
  intro p e s m below meth c ls hx hb hml hr hts hown hlocks hin hv hl
  have hown : s.vm.findClass RX0 = some m.cls := hown
  have hl : lv_has ls 1 [(0, .int x)] := hl
  refine lv_iload_n hx hb dX0_checkStrength_0 rfl (lv_at hl 0 rfl) ?_
  refine lv_iconst (v := 1) hx hb dX0_checkStrength_1 (by decide) ?_
  refine lv_icmp_lt (tgt := 12) hx hb dX0_checkStrength_2 (by decide) (fun c2 => absurd c2 hx0.1) (fun c2 => ?_)
  refine lv_iload_n hx hb dX0_checkStrength_5 rfl (lv_at hl 0 rfl) ?_
  refine lv_sipush (v := 999) hx hb dX0_checkStrength_6 (by decide) ?_
  refine lv_icmp_le (tgt := 22) hx hb dX0_checkStrength_9 (by decide) (fun c9 => ?_) (fun c9 => absurd (kr_nle2 c9) hx0.2)
  exact kr_eV hx hb hr hlocks rfl trivial dX0_checkStrength_22
set_option maxHeartbeats 4000000 in
set_option maxRecDepth 100000 in
theorem c_X0_checkLine (l : Launch) (D : va_G) (cy : ClassId) (h : Nat) (a : Nat → Nat) (N L : Nat) (A : Nat → Nat → Int32) (q : Nat) (hL : L ≤ 6) (hq : q < L) : Met l yX0_checkLine (Cond.code yX0_checkLine cX0_checkLine 2 none :: kr_all) ({ frames := 0, cells := 0, slots := 0, locals := 0 }) (va_Pc [.ref h, .int (nI q)] (kr_R D (kr_W0 cy h a N L A) cy)) (va_Sv (fun _ => True)) 0 0 (fun _ => False) := by
  refine kr_of (by decide) (Nat.le_of_ble_eq_true rfl) ?_
  intro p e s m below meth c ls hx hb hml hr hts hown hlocks hin hv hl
  obtain ⟨hP, hK⟩ := hv
  have hown : s.vm.findClass RX0 = some m.cls := hown
  have hl : lv_has ls 2 [(0, .ref h), (1, .int (nI q))] := hl
  refine lv_iload_n hx hb dX0_checkLine_0 rfl (lv_at hl 1 rfl) ?_
  refine lv_if_lt (tgt := 12) hx hb dX0_checkLine_1 (by decide) (fun c1 => absurd c1 (nI_pos (by omega))) (fun c1 => ?_)
  refine lv_iload_n hx hb dX0_checkLine_4 rfl (lv_at hl 1 rfl) ?_
  refine lv_aload_n hx hb dX0_checkLine_5 rfl (lv_at hl 0 rfl) ?_
  refine va_get (ci := 0) (v := .int (nI L)) (C := RX0) (T := TX0) (N := 10) hx hb hts kr_wsX0 hown hK hP 0 rfl rfl 7 (by decide) (hts _ kq_49) (fun _ h9 => h9) rfl dX0_checkLine_6 ?_
  refine lv_icmp_lt (tgt := 22) hx hb dX0_checkLine_9 (by decide) (fun c9 => ?_) (fun c9 => absurd (nI_lt hq (by omega)) c9)
  exact kr_eV hx hb hr hlocks rfl trivial dX0_checkLine_22
theorem kg_RX0_82 : GoodIn kr_all (wsV RX0 82 RX0 yX0_checkLine (Cond.code yX0_checkLine cX0_checkLine 2 none :: kr_all)) := kr_gV kq_82 kq_84 kq_1 kq_25 kq_85
set_option maxHeartbeats 4000000 in
set_option maxRecDepth 100000 in
theorem c_X0_checkPlace (l : Launch) (D : va_G) (cy : ClassId) (h : Nat) (a : Nat → Nat) (N L : Nat) (A : Nat → Nat → Int32) (q pl : Nat) (hw : kr_wf N L A) (hq : q < L) (hp : pl < kr_rc A q) : Met l yX0_checkPlace (Cond.code yX0_checkPlace cX0_checkPlace 3 none :: kr_all) ({ frames := 1, cells := 0, slots := 0, locals := 21 }) (va_Pc [.ref h, .int (nI q), .int (nI pl)] (kr_R D (kr_W0 cy h a N L A) cy)) (va_Sv (fun _ => True)) 0 0 (fun _ => False) := by
  refine kr_of (by decide) (Nat.le_of_ble_eq_true rfl) ?_
  intro p e s m below meth c ls hx hb hml hr hts hown hlocks hin hv hl
  obtain ⟨hP, hK⟩ := hv
  have hown : s.vm.findClass RX0 = some m.cls := hown
  have hl : lv_has ls 3 [(0, .ref h), (1, .int (nI q)), (2, .int (nI pl))] := hl
  have hL := hw.2.1
  obtain ⟨hrc, er⟩ := hw.rc hq
  refine lv_aload_n hx hb dX0_checkPlace_0 rfl (lv_at hl 0 rfl) ?_
  refine lv_iload_n hx hb dX0_checkPlace_1 rfl (lv_at hl 1 rfl) ?_
  refine kr_vV (n := 1) (As := [.int (nI q)]) (rest := []) ⟨hx, hb, hml, hown, hts⟩ (c_X0_checkLine l D cy h a N L A q (by omega) (by omega)) kg_RX0_82 ⟨rfl, rfl⟩ (by decide +kernel) ⟨Nat.le_of_ble_eq_true rfl, Nat.le_of_ble_eq_true rfl⟩ (kr_pv0 hP hK) rfl hl.1 rfl (Nat.le_of_ble_eq_true rfl) dX0_checkPlace_2 ⟨Nat.zero_le _, Nat.zero_le _⟩ ?_
  refine lv_iload_n hx hb dX0_checkPlace_5 rfl (lv_at hl 2 rfl) ?_
  refine lv_if_lt (tgt := 19) hx hb dX0_checkPlace_6 (by decide) (fun c6 => absurd c6 (nI_pos (by omega))) (fun c6 => ?_)
  refine lv_iload_n hx hb dX0_checkPlace_9 rfl (lv_at hl 2 rfl) ?_
  refine lv_aload_n hx hb dX0_checkPlace_10 rfl (lv_at hl 0 rfl) ?_
  refine va_get (ci := 0) (v := .ref (a 5)) (C := RX0) (T := TX0) (N := 10) hx hb hts kr_wsX0 hown hK hP 0 rfl rfl 6 (by decide) (hts _ kq_48) (fun _ h9 => h9) rfl dX0_checkPlace_11 ?_
  refine lv_iload_n hx hb dX0_checkPlace_14 rfl (lv_at hl 1 rfl) ?_
  refine kr_ald hx hb hK hP 6 0 rfl rfl q (by omega) (by decide) dX0_checkPlace_15 ?_
  rw [er]
  refine lv_icmp_lt (tgt := 29) hx hb dX0_checkPlace_16 (by decide) (fun c16 => ?_) (fun c16 => absurd (nI_lt hp (by omega)) c16)
  exact kr_eV hx hb hr hlocks rfl trivial dX0_checkPlace_29
set_option maxHeartbeats 4000000 in
set_option maxRecDepth 100000 in
theorem c_X0_checkNotGone (l : Launch) (D : va_G) (cy : ClassId) (h : Nat) (a : Nat → Nat) (N L : Nat) (A : Nat → Nat → Int32) (q : Nat) (hq : q < 6) (hg : ¬ A 5 q = 0) : Met l yX0_checkNotGone (Cond.code yX0_checkNotGone cX0_checkNotGone 2 none :: kr_all) ({ frames := 1, cells := 0, slots := 0, locals := 21 }) (va_Pc [.ref h, .int (nI q)] (kr_R D (kr_W0 cy h a N L A) cy)) (va_Sv (fun _ => True)) 0 0 (fun _ => False) := by
  refine kr_of (by decide) (Nat.le_of_ble_eq_true rfl) ?_
  intro p e s m below meth c ls hx hb hml hr hts hown hlocks hin hv hl
  obtain ⟨hP, hK⟩ := hv
  have hown : s.vm.findClass RX0 = some m.cls := hown
  have hl : lv_has ls 2 [(0, .ref h), (1, .int (nI q))] := hl
  refine lv_aload_n hx hb dX0_checkNotGone_0 rfl (lv_at hl 0 rfl) ?_
  refine lv_iload_n hx hb dX0_checkNotGone_1 rfl (lv_at hl 1 rfl) ?_
  refine kr_vI (n := 1) (As := [.int (nI q)]) (rest := []) ⟨hx, hb, hml, hown, hts⟩ (c_X0_isGone l D cy h a N L A q (by omega)) kg_RX0_140 ⟨rfl, rfl⟩ (by decide +kernel) ⟨Nat.le_of_ble_eq_true rfl, Nat.le_of_ble_eq_true rfl⟩ (kr_pv0 hP hK) rfl hl.1 rfl (Nat.le_of_ble_eq_true rfl) dX0_checkNotGone_2 ⟨Nat.zero_le _, Nat.zero_le _⟩ (fun r9 e9 => ?_)
  subst e9
  refine lv_if_eq (tgt := 18) hx hb dX0_checkNotGone_5 (by decide) (fun c5 => ?_) (fun c5 => absurd (kr_if1 c5) hg)
  exact kr_eV hx hb hr hlocks rfl trivial dX0_checkNotGone_18
end
section
set_option maxHeartbeats 4000000 in
set_option maxRecDepth 100000 in
theorem c_X0_knots (l : Launch) (D : va_G) (cy : ClassId) (h : Nat) (a : Nat → Nat) (N L : Nat) (A : Nat → Nat → Int32) : Met l yX0_knots (Cond.code yX0_knots cX0_knots 1 (some .int) :: kr_all) ({ frames := 0, cells := 0, slots := 0, locals := 0 }) (va_Pc [.ref h] (kr_R D (kr_W0 cy h a N L A) cy)) (vp_Si (fun r => r = nI N)) 0 0 (fun _ => False) := by
  refine kr_of (by decide) (Nat.le_of_ble_eq_true rfl) ?_
  intro p e s m below meth c ls hx hb hml hr hts hown hlocks hin hv hl
  obtain ⟨hP, hK⟩ := hv
  have hown : s.vm.findClass RX0 = some m.cls := hown
  have hl : lv_has ls 1 [(0, .ref h)] := hl
  refine lv_aload_n hx hb dX0_knots_0 rfl (lv_at hl 0 rfl) ?_
  refine va_get (ci := 0) (v := .int (nI N)) (C := RX0) (T := TX0) (N := 10) hx hb hts kr_wsX0 hown hK hP 0 rfl rfl 5 (by decide) (hts _ kq_47) (fun _ h9 => h9) rfl dX0_knots_1 ?_
  exact kr_eI hx hb hr hlocks rfl rfl dX0_knots_4
set_option maxHeartbeats 4000000 in
set_option maxRecDepth 100000 in
theorem c_X0_lines (l : Launch) (D : va_G) (cy : ClassId) (h : Nat) (a : Nat → Nat) (N L : Nat) (A : Nat → Nat → Int32) : Met l yX0_lines (Cond.code yX0_lines cX0_lines 1 (some .int) :: kr_all) ({ frames := 0, cells := 0, slots := 0, locals := 0 }) (va_Pc [.ref h] (kr_R D (kr_W0 cy h a N L A) cy)) (vp_Si (fun r => r = nI L)) 0 0 (fun _ => False) := by
  refine kr_of (by decide) (Nat.le_of_ble_eq_true rfl) ?_
  intro p e s m below meth c ls hx hb hml hr hts hown hlocks hin hv hl
  obtain ⟨hP, hK⟩ := hv
  have hown : s.vm.findClass RX0 = some m.cls := hown
  have hl : lv_has ls 1 [(0, .ref h)] := hl
  refine lv_aload_n hx hb dX0_lines_0 rfl (lv_at hl 0 rfl) ?_
  refine va_get (ci := 0) (v := .int (nI L)) (C := RX0) (T := TX0) (N := 10) hx hb hts kr_wsX0 hown hK hP 0 rfl rfl 7 (by decide) (hts _ kq_49) (fun _ h9 => h9) rfl dX0_lines_1 ?_
  exact kr_eI hx hb hr hlocks rfl rfl dX0_lines_4
theorem kg_RX0_41 : GoodIn kr_all (wsS RX0 41 yX0_checkKind (Cond.code yX0_checkKind cX0_checkKind 1 none :: kr_all)) := kr_gS kq_253 kq_254 kq_25 kq_255
theorem kg_RX0_107 : GoodIn kr_all (wsV RX0 107 RX0 yX0_countOfKind (Cond.code yX0_countOfKind cX0_countOfKind 4 (some .int) :: kr_all)) := kr_gV kq_257 kq_259 kq_13 kq_25 kq_260
set_option maxHeartbeats 4000000 in
set_option maxRecDepth 100000 in
theorem c_X0_knotsOf (l : Launch) (D : va_G) (cy : ClassId) (h : Nat) (a : Nat → Nat) (N L : Nat) (A : Nat → Nat → Int32) (kd : Int32) (hN : N ≤ 16) (hkd : kd = 0 ∨ kd = 1) : Met l yX0_knotsOf (Cond.code yX0_knotsOf cX0_knotsOf 2 (some .int) :: kr_all) ({ frames := 1, cells := 0, slots := 0, locals := 23 }) (va_Pc [.ref h, .int kd] (kr_R D (kr_W0 cy h a N L A) cy)) (vp_Si (fun r => r = nI (kr_cn A kd N))) 0 0 (fun _ => False) := by
  refine kr_of (by decide) (Nat.le_of_ble_eq_true rfl) ?_
  intro p e s m below meth c ls hx hb hml hr hts hown hlocks hin hv hl
  obtain ⟨hP, hK⟩ := hv
  have hown : s.vm.findClass RX0 = some m.cls := hown
  have hl : lv_has ls 2 [(0, .ref h), (1, .int kd)] := hl
  refine lv_iload_n hx hb dX0_knotsOf_0 rfl (lv_at hl 1 rfl) ?_
  refine kr_sV (n := 1) (As := [.int kd]) (rest := []) ⟨hx, hb, hml, hown, hts⟩ (c_X0_checkKind l kd (by assumption)) kg_RX0_41 ⟨rfl, rfl⟩ (by decide +kernel) ⟨Nat.le_of_ble_eq_true rfl, Nat.le_of_ble_eq_true rfl⟩ ⟨kr_blT, fun U hU hW => ⟨rfl, trivial⟩⟩ rfl hl.1 rfl (Nat.le_of_ble_eq_true rfl) dX0_knotsOf_1 ⟨Nat.zero_le _, Nat.zero_le _⟩ ?_
  refine lv_aload_n hx hb dX0_knotsOf_4 rfl (lv_at hl 0 rfl) ?_
  refine lv_iload_n hx hb dX0_knotsOf_5 rfl (lv_at hl 1 rfl) ?_
  refine kr_vI (n := 1) (As := [.int kd]) (rest := []) ⟨hx, hb, hml, hown, hts⟩ (c_X0_countOfKind l D cy h a N L A kd (by omega)) kg_RX0_107 ⟨rfl, rfl⟩ (by decide +kernel) ⟨Nat.le_of_ble_eq_true rfl, Nat.le_of_ble_eq_true rfl⟩ (kr_pv0 hP hK) rfl hl.1 rfl (Nat.le_of_ble_eq_true rfl) dX0_knotsOf_6 ⟨Nat.zero_le _, Nat.zero_le _⟩ (fun r9 e9 => ?_)
  subst e9
  exact kr_eI hx hb hr hlocks rfl rfl dX0_knotsOf_9
theorem kg_RX0_59 : GoodIn kr_all (wsV RX0 59 RX0 yX0_checkKnot (Cond.code yX0_checkKnot cX0_checkKnot 2 none :: kr_all)) := kr_gV kq_155 kq_157 kq_3 kq_25 kq_158
set_option maxHeartbeats 4000000 in
set_option maxRecDepth 100000 in
theorem c_X0_kindOf (l : Launch) (D : va_G) (cy : ClassId) (h : Nat) (a : Nat → Nat) (N L : Nat) (A : Nat → Nat → Int32) (k : Nat) (hN : N ≤ 16) (hk : k < N) : Met l yX0_kindOf (Cond.code yX0_kindOf cX0_kindOf 2 (some .int) :: kr_all) ({ frames := 2, cells := 0, slots := 0, locals := 42 }) (va_Pc [.ref h, .int (nI k)] (kr_R D (kr_W0 cy h a N L A) cy)) (vp_Si (fun r => r = A 0 k)) 0 0 (fun _ => False) := by
  refine kr_of (by decide) (Nat.le_of_ble_eq_true rfl) ?_
  intro p e s m below meth c ls hx hb hml hr hts hown hlocks hin hv hl
  obtain ⟨hP, hK⟩ := hv
  have hown : s.vm.findClass RX0 = some m.cls := hown
  have hl : lv_has ls 2 [(0, .ref h), (1, .int (nI k))] := hl
  refine lv_aload_n hx hb dX0_kindOf_0 rfl (lv_at hl 0 rfl) ?_
  refine lv_iload_n hx hb dX0_kindOf_1 rfl (lv_at hl 1 rfl) ?_
  refine kr_vV (n := 1) (As := [.int (nI k)]) (rest := []) ⟨hx, hb, hml, hown, hts⟩ (c_X0_checkKnot l D cy h a N L A k (by omega) (by omega)) kg_RX0_59 ⟨rfl, rfl⟩ (by decide +kernel) ⟨Nat.le_of_ble_eq_true rfl, Nat.le_of_ble_eq_true rfl⟩ (kr_pv0 hP hK) rfl hl.1 rfl (Nat.le_of_ble_eq_true rfl) dX0_kindOf_2 ⟨Nat.zero_le _, Nat.zero_le _⟩ ?_
  refine lv_aload_n hx hb dX0_kindOf_5 rfl (lv_at hl 0 rfl) ?_
  refine va_get (ci := 0) (v := .ref (a 0)) (C := RX0) (T := TX0) (N := 10) hx hb hts kr_wsX0 hown hK hP 0 rfl rfl 0 (by decide) (hts _ kq_42) (fun _ h9 => h9) rfl dX0_kindOf_6 ?_
  refine lv_iload_n hx hb dX0_kindOf_9 rfl (lv_at hl 1 rfl) ?_
  refine kr_ald hx hb hK hP 1 0 rfl rfl k (by omega) (by decide) dX0_kindOf_10 ?_
  exact kr_eI hx hb hr hlocks rfl rfl dX0_kindOf_11
set_option maxHeartbeats 4000000 in
set_option maxRecDepth 100000 in
theorem c_X0_efficiencyOf (l : Launch) (D : va_G) (cy : ClassId) (h : Nat) (a : Nat → Nat) (N L : Nat) (A : Nat → Nat → Int32) (k : Nat) (hN : N ≤ 16) (hk : k < N) : Met l yX0_efficiencyOf (Cond.code yX0_efficiencyOf cX0_efficiencyOf 2 (some .int) :: kr_all) ({ frames := 2, cells := 0, slots := 0, locals := 42 }) (va_Pc [.ref h, .int (nI k)] (kr_R D (kr_W0 cy h a N L A) cy)) (vp_Si (fun r => r = A 1 k)) 0 0 (fun _ => False) := by
  refine kr_of (by decide) (Nat.le_of_ble_eq_true rfl) ?_
  intro p e s m below meth c ls hx hb hml hr hts hown hlocks hin hv hl
  obtain ⟨hP, hK⟩ := hv
  have hown : s.vm.findClass RX0 = some m.cls := hown
  have hl : lv_has ls 2 [(0, .ref h), (1, .int (nI k))] := hl
  refine lv_aload_n hx hb dX0_efficiencyOf_0 rfl (lv_at hl 0 rfl) ?_
  refine lv_iload_n hx hb dX0_efficiencyOf_1 rfl (lv_at hl 1 rfl) ?_
  refine kr_vV (n := 1) (As := [.int (nI k)]) (rest := []) ⟨hx, hb, hml, hown, hts⟩ (c_X0_checkKnot l D cy h a N L A k (by omega) (by omega)) kg_RX0_59 ⟨rfl, rfl⟩ (by decide +kernel) ⟨Nat.le_of_ble_eq_true rfl, Nat.le_of_ble_eq_true rfl⟩ (kr_pv0 hP hK) rfl hl.1 rfl (Nat.le_of_ble_eq_true rfl) dX0_efficiencyOf_2 ⟨Nat.zero_le _, Nat.zero_le _⟩ ?_
  refine lv_aload_n hx hb dX0_efficiencyOf_5 rfl (lv_at hl 0 rfl) ?_
  refine va_get (ci := 0) (v := .ref (a 1)) (C := RX0) (T := TX0) (N := 10) hx hb hts kr_wsX0 hown hK hP 0 rfl rfl 1 (by decide) (hts _ kq_43) (fun _ h9 => h9) rfl dX0_efficiencyOf_6 ?_
  refine lv_iload_n hx hb dX0_efficiencyOf_9 rfl (lv_at hl 1 rfl) ?_
  refine kr_ald hx hb hK hP 2 0 rfl rfl k (by omega) (by decide) dX0_efficiencyOf_10 ?_
  exact kr_eI hx hb hr hlocks rfl rfl dX0_efficiencyOf_11
set_option maxHeartbeats 4000000 in
set_option maxRecDepth 100000 in
theorem c_X0_crossingsOf (l : Launch) (D : va_G) (cy : ClassId) (h : Nat) (a : Nat → Nat) (N L : Nat) (A : Nat → Nat → Int32) (k : Nat) (hN : N ≤ 16) (hk : k < N) : Met l yX0_crossingsOf (Cond.code yX0_crossingsOf cX0_crossingsOf 2 (some .int) :: kr_all) ({ frames := 2, cells := 0, slots := 0, locals := 42 }) (va_Pc [.ref h, .int (nI k)] (kr_R D (kr_W0 cy h a N L A) cy)) (vp_Si (fun r => r = A 2 k)) 0 0 (fun _ => False) := by
  refine kr_of (by decide) (Nat.le_of_ble_eq_true rfl) ?_
  intro p e s m below meth c ls hx hb hml hr hts hown hlocks hin hv hl
  obtain ⟨hP, hK⟩ := hv
  have hown : s.vm.findClass RX0 = some m.cls := hown
  have hl : lv_has ls 2 [(0, .ref h), (1, .int (nI k))] := hl
  refine lv_aload_n hx hb dX0_crossingsOf_0 rfl (lv_at hl 0 rfl) ?_
  refine lv_iload_n hx hb dX0_crossingsOf_1 rfl (lv_at hl 1 rfl) ?_
  refine kr_vV (n := 1) (As := [.int (nI k)]) (rest := []) ⟨hx, hb, hml, hown, hts⟩ (c_X0_checkKnot l D cy h a N L A k (by omega) (by omega)) kg_RX0_59 ⟨rfl, rfl⟩ (by decide +kernel) ⟨Nat.le_of_ble_eq_true rfl, Nat.le_of_ble_eq_true rfl⟩ (kr_pv0 hP hK) rfl hl.1 rfl (Nat.le_of_ble_eq_true rfl) dX0_crossingsOf_2 ⟨Nat.zero_le _, Nat.zero_le _⟩ ?_
  refine lv_aload_n hx hb dX0_crossingsOf_5 rfl (lv_at hl 0 rfl) ?_
  refine va_get (ci := 0) (v := .ref (a 2)) (C := RX0) (T := TX0) (N := 10) hx hb hts kr_wsX0 hown hK hP 0 rfl rfl 2 (by decide) (hts _ kq_44) (fun _ h9 => h9) rfl dX0_crossingsOf_6 ?_
  refine lv_iload_n hx hb dX0_crossingsOf_9 rfl (lv_at hl 1 rfl) ?_
  refine kr_ald hx hb hK hP 3 0 rfl rfl k (by omega) (by decide) dX0_crossingsOf_10 ?_
  exact kr_eI hx hb hr hlocks rfl rfl dX0_crossingsOf_11
set_option maxHeartbeats 4000000 in
set_option maxRecDepth 100000 in
theorem c_X0_spillsAt (l : Launch) (D : va_G) (cy : ClassId) (h : Nat) (a : Nat → Nat) (N L : Nat) (A : Nat → Nat → Int32) (k : Nat) (hN : N ≤ 16) (hk : k < N) : Met l yX0_spillsAt (Cond.code yX0_spillsAt cX0_spillsAt 2 (some .int) :: kr_all) ({ frames := 2, cells := 0, slots := 0, locals := 42 }) (va_Pc [.ref h, .int (nI k)] (kr_R D (kr_W0 cy h a N L A) cy)) (vp_Si (fun r => r = A 3 k)) 0 0 (fun _ => False) := by
  refine kr_of (by decide) (Nat.le_of_ble_eq_true rfl) ?_
  intro p e s m below meth c ls hx hb hml hr hts hown hlocks hin hv hl
  obtain ⟨hP, hK⟩ := hv
  have hown : s.vm.findClass RX0 = some m.cls := hown
  have hl : lv_has ls 2 [(0, .ref h), (1, .int (nI k))] := hl
  refine lv_aload_n hx hb dX0_spillsAt_0 rfl (lv_at hl 0 rfl) ?_
  refine lv_iload_n hx hb dX0_spillsAt_1 rfl (lv_at hl 1 rfl) ?_
  refine kr_vV (n := 1) (As := [.int (nI k)]) (rest := []) ⟨hx, hb, hml, hown, hts⟩ (c_X0_checkKnot l D cy h a N L A k (by omega) (by omega)) kg_RX0_59 ⟨rfl, rfl⟩ (by decide +kernel) ⟨Nat.le_of_ble_eq_true rfl, Nat.le_of_ble_eq_true rfl⟩ (kr_pv0 hP hK) rfl hl.1 rfl (Nat.le_of_ble_eq_true rfl) dX0_spillsAt_2 ⟨Nat.zero_le _, Nat.zero_le _⟩ ?_
  refine lv_aload_n hx hb dX0_spillsAt_5 rfl (lv_at hl 0 rfl) ?_
  refine va_get (ci := 0) (v := .ref (a 3)) (C := RX0) (T := TX0) (N := 10) hx hb hts kr_wsX0 hown hK hP 0 rfl rfl 3 (by decide) (hts _ kq_45) (fun _ h9 => h9) rfl dX0_spillsAt_6 ?_
  refine lv_iload_n hx hb dX0_spillsAt_9 rfl (lv_at hl 1 rfl) ?_
  refine kr_ald hx hb hK hP 4 0 rfl rfl k (by omega) (by decide) dX0_spillsAt_10 ?_
  exact kr_eI hx hb hr hlocks rfl rfl dX0_spillsAt_11
set_option maxHeartbeats 4000000 in
set_option maxRecDepth 100000 in
theorem c_X0_spillsInto (l : Launch) (D : va_G) (cy : ClassId) (h : Nat) (a : Nat → Nat) (N L : Nat) (A : Nat → Nat → Int32) (k : Nat) (hN : N ≤ 16) (hk : k < N) : Met l yX0_spillsInto (Cond.code yX0_spillsInto cX0_spillsInto 2 (some .int) :: kr_all) ({ frames := 2, cells := 0, slots := 0, locals := 42 }) (va_Pc [.ref h, .int (nI k)] (kr_R D (kr_W0 cy h a N L A) cy)) (vp_Si (fun r => r = A 4 k)) 0 0 (fun _ => False) := by
  refine kr_of (by decide) (Nat.le_of_ble_eq_true rfl) ?_
  intro p e s m below meth c ls hx hb hml hr hts hown hlocks hin hv hl
  obtain ⟨hP, hK⟩ := hv
  have hown : s.vm.findClass RX0 = some m.cls := hown
  have hl : lv_has ls 2 [(0, .ref h), (1, .int (nI k))] := hl
  refine lv_aload_n hx hb dX0_spillsInto_0 rfl (lv_at hl 0 rfl) ?_
  refine lv_iload_n hx hb dX0_spillsInto_1 rfl (lv_at hl 1 rfl) ?_
  refine kr_vV (n := 1) (As := [.int (nI k)]) (rest := []) ⟨hx, hb, hml, hown, hts⟩ (c_X0_checkKnot l D cy h a N L A k (by omega) (by omega)) kg_RX0_59 ⟨rfl, rfl⟩ (by decide +kernel) ⟨Nat.le_of_ble_eq_true rfl, Nat.le_of_ble_eq_true rfl⟩ (kr_pv0 hP hK) rfl hl.1 rfl (Nat.le_of_ble_eq_true rfl) dX0_spillsInto_2 ⟨Nat.zero_le _, Nat.zero_le _⟩ ?_
  refine lv_aload_n hx hb dX0_spillsInto_5 rfl (lv_at hl 0 rfl) ?_
  refine va_get (ci := 0) (v := .ref (a 4)) (C := RX0) (T := TX0) (N := 10) hx hb hts kr_wsX0 hown hK hP 0 rfl rfl 4 (by decide) (hts _ kq_46) (fun _ h9 => h9) rfl dX0_spillsInto_6 ?_
  refine lv_iload_n hx hb dX0_spillsInto_9 rfl (lv_at hl 1 rfl) ?_
  refine kr_ald hx hb hK hP 5 0 rfl rfl k (by omega) (by decide) dX0_spillsInto_10 ?_
  exact kr_eI hx hb hr hlocks rfl rfl dX0_spillsInto_11
set_option maxHeartbeats 4000000 in
set_option maxRecDepth 100000 in
theorem c_X0_rankOf (l : Launch) (D : va_G) (cy : ClassId) (h : Nat) (a : Nat → Nat) (N L : Nat) (A : Nat → Nat → Int32) (k : Nat) (hN : N ≤ 16) (hk : k < N) : Met l yX0_rankOf (Cond.code yX0_rankOf cX0_rankOf 2 (some .int) :: kr_all) ({ frames := 2, cells := 0, slots := 0, locals := 45 }) (va_Pc [.ref h, .int (nI k)] (kr_R D (kr_W0 cy h a N L A) cy)) (vp_Si (fun r => r = nI (kr_rk A k N))) 0 0 (fun _ => False) := by
  refine kr_of (by decide) (Nat.le_of_ble_eq_true rfl) ?_
  intro p e s m below meth c ls hx hb hml hr hts hown hlocks hin hv hl
  obtain ⟨hP, hK⟩ := hv
  have hown : s.vm.findClass RX0 = some m.cls := hown
  have hl : lv_has ls 2 [(0, .ref h), (1, .int (nI k))] := hl
  refine lv_aload_n hx hb dX0_rankOf_0 rfl (lv_at hl 0 rfl) ?_
  refine lv_iload_n hx hb dX0_rankOf_1 rfl (lv_at hl 1 rfl) ?_
  refine kr_vV (n := 1) (As := [.int (nI k)]) (rest := []) ⟨hx, hb, hml, hown, hts⟩ (c_X0_checkKnot l D cy h a N L A k (by omega) (by omega)) kg_RX0_59 ⟨rfl, rfl⟩ (by decide +kernel) ⟨Nat.le_of_ble_eq_true rfl, Nat.le_of_ble_eq_true rfl⟩ (kr_pv0 hP hK) rfl hl.1 rfl (Nat.le_of_ble_eq_true rfl) dX0_rankOf_2 ⟨Nat.zero_le _, Nat.zero_le _⟩ ?_
  refine lv_aload_n hx hb dX0_rankOf_5 rfl (lv_at hl 0 rfl) ?_
  refine lv_iload_n hx hb dX0_rankOf_6 rfl (lv_at hl 1 rfl) ?_
  refine kr_vI (n := 1) (As := [.int (nI k)]) (rest := []) ⟨hx, hb, hml, hown, hts⟩ (c_X0_rankInKind l D cy h a N L A k (by omega) (by omega)) kg_RX0_110 ⟨rfl, rfl⟩ (by decide +kernel) ⟨Nat.le_of_ble_eq_true rfl, Nat.le_of_ble_eq_true rfl⟩ (kr_pv0 hP hK) rfl hl.1 rfl (Nat.le_of_ble_eq_true rfl) dX0_rankOf_7 ⟨Nat.zero_le _, Nat.zero_le _⟩ (fun r9 e9 => ?_)
  subst e9
  exact kr_eI hx hb hr hlocks rfl rfl dX0_rankOf_10
theorem kg_RX0_113 : GoodIn kr_all (wsV RX0 113 RX0 yX0_knotWithRank (Cond.code yX0_knotWithRank cX0_knotWithRank 4 (some .int) :: kr_all)) := kr_gV kq_293 kq_295 kq_16 kq_25 kq_296
set_option maxHeartbeats 4000000 in
set_option maxRecDepth 100000 in
theorem c_X0_knotAt (l : Launch) (D : va_G) (cy : ClassId) (h : Nat) (a : Nat → Nat) (N L : Nat) (A : Nat → Nat → Int32) (kd rk : Int32) (hN : N ≤ 16) (hkd : kd = 0 ∨ kd = 1) (hv0 : ¬ kr_kw A N kd rk N 0 = -1) : Met l yX0_knotAt (Cond.code yX0_knotAt cX0_knotAt 4 (some .int) :: kr_all) ({ frames := 3, cells := 0, slots := 0, locals := 68 }) (va_Pc [.ref h, .int kd, .int rk] (kr_R D (kr_W0 cy h a N L A) cy)) (vp_Si (fun r => r = kr_kw A N kd rk N 0)) 0 0 (fun _ => False) := by
  refine kr_of (by decide) (Nat.le_of_ble_eq_true rfl) ?_
  intro p e s m below meth c ls hx hb hml hr hts hown hlocks hin hv hl
  obtain ⟨hP, hK⟩ := hv
  have hown : s.vm.findClass RX0 = some m.cls := hown
  have hl : lv_has ls 4 [(0, .ref h), (1, .int kd), (2, .int rk)] := hl
  refine lv_iload_n hx hb dX0_knotAt_0 rfl (lv_at hl 1 rfl) ?_
  refine kr_sV (n := 1) (As := [.int kd]) (rest := []) ⟨hx, hb, hml, hown, hts⟩ (c_X0_checkKind l kd (by assumption)) kg_RX0_41 ⟨rfl, rfl⟩ (by decide +kernel) ⟨Nat.le_of_ble_eq_true rfl, Nat.le_of_ble_eq_true rfl⟩ ⟨kr_blT, fun U hU hW => ⟨rfl, trivial⟩⟩ rfl hl.1 rfl (Nat.le_of_ble_eq_true rfl) dX0_knotAt_1 ⟨Nat.zero_le _, Nat.zero_le _⟩ ?_
  refine lv_aload_n hx hb dX0_knotAt_4 rfl (lv_at hl 0 rfl) ?_
  refine lv_iload_n hx hb dX0_knotAt_5 rfl (lv_at hl 1 rfl) ?_
  refine lv_iload_n hx hb dX0_knotAt_6 rfl (lv_at hl 2 rfl) ?_
  refine kr_vI (n := 2) (As := [.int kd, .int rk]) (rest := []) ⟨hx, hb, hml, hown, hts⟩ (c_X0_knotWithRank l D cy h a N L A kd rk (by omega)) kg_RX0_113 ⟨rfl, rfl⟩ (by decide +kernel) ⟨Nat.le_of_ble_eq_true rfl, Nat.le_of_ble_eq_true rfl⟩ (kr_pv0 hP hK) rfl hl.1 rfl (Nat.le_of_ble_eq_true rfl) dX0_knotAt_7 ⟨Nat.zero_le _, Nat.zero_le _⟩ (fun r9 e9 => ?_)
  subst e9
  refine lv_istore_n (lv' := [(3, .int (kr_kw A N kd rk N 0)), (0, .ref h), (1, .int kd), (2, .int rk)]) hx hb dX0_knotAt_10 rfl hl (by decide) rfl (fun ls hl => ?_)
  refine lv_iload_n hx hb dX0_knotAt_11 rfl (lv_at hl 0 rfl) ?_
  refine lv_iconst (v := -1) hx hb dX0_knotAt_12 (by decide) ?_
  refine lv_icmp_ne (tgt := 26) hx hb dX0_knotAt_13 (by decide) (fun c13 => ?_) (fun c13 => absurd c13 hv0)
  refine lv_iload_n hx hb dX0_knotAt_26 rfl (lv_at hl 0 rfl) ?_
  exact kr_eI hx hb hr hlocks rfl rfl dX0_knotAt_27
theorem kg_RX0_62 : GoodIn kr_all (wsS RX0 62 yX0_checkLoad (Cond.code yX0_checkLoad cX0_checkLoad 1 none :: kr_all)) := kr_gS kq_194 kq_195 kq_25 kq_196
set_option maxHeartbeats 4000000 in
set_option maxRecDepth 100000 in
theorem c_X0_formOf (l : Launch) (D : va_G) (cy : ClassId) (h : Nat) (a : Nat → Nat) (N L : Nat) (A : Nat → Nat → Int32) (k : Nat) (ld : Int32) (hw : kr_wf N L A) (hk : k < N) (hld : ¬ ld < 1 ∧ ¬ 999 < ld) : Met l yX0_formOf (Cond.code yX0_formOf cX0_formOf 3 (some .int) :: kr_all) ({ frames := 3, cells := 0, slots := 0, locals := 67 }) (va_Pc [.ref h, .int (nI k), .int ld] (kr_R D (kr_W0 cy h a N L A) cy)) (vp_Si (fun r => r = kr_fm A ld 16 (nI k))) 0 0 (fun _ => False) := by
  refine kr_of (by decide) (Nat.le_of_ble_eq_true rfl) ?_
  intro p e s m below meth c ls hx hb hml hr hts hown hlocks hin hv hl
  obtain ⟨hP, hK⟩ := hv
  have hown : s.vm.findClass RX0 = some m.cls := hown
  have hl : lv_has ls 3 [(0, .ref h), (1, .int (nI k)), (2, .int ld)] := hl
  have hN := hw.1
  refine lv_aload_n hx hb dX0_formOf_0 rfl (lv_at hl 0 rfl) ?_
  refine lv_iload_n hx hb dX0_formOf_1 rfl (lv_at hl 1 rfl) ?_
  refine kr_vV (n := 1) (As := [.int (nI k)]) (rest := []) ⟨hx, hb, hml, hown, hts⟩ (c_X0_checkKnot l D cy h a N L A k (by omega) (by omega)) kg_RX0_59 ⟨rfl, rfl⟩ (by decide +kernel) ⟨Nat.le_of_ble_eq_true rfl, Nat.le_of_ble_eq_true rfl⟩ (kr_pv0 hP hK) rfl hl.1 rfl (Nat.le_of_ble_eq_true rfl) dX0_formOf_2 ⟨Nat.zero_le _, Nat.zero_le _⟩ ?_
  refine lv_iload_n hx hb dX0_formOf_5 rfl (lv_at hl 2 rfl) ?_
  refine kr_sV (n := 1) (As := [.int ld]) (rest := []) ⟨hx, hb, hml, hown, hts⟩ (c_X0_checkLoad l ld (by assumption)) kg_RX0_62 ⟨rfl, rfl⟩ (by decide +kernel) ⟨Nat.le_of_ble_eq_true rfl, Nat.le_of_ble_eq_true rfl⟩ ⟨kr_blT, fun U hU hW => ⟨rfl, trivial⟩⟩ rfl hl.1 rfl (Nat.le_of_ble_eq_true rfl) dX0_formOf_6 ⟨Nat.zero_le _, Nat.zero_le _⟩ ?_
  refine lv_aload_n hx hb dX0_formOf_9 rfl (lv_at hl 0 rfl) ?_
  refine lv_iload_n hx hb dX0_formOf_10 rfl (lv_at hl 1 rfl) ?_
  refine lv_iload_n hx hb dX0_formOf_11 rfl (lv_at hl 2 rfl) ?_
  refine kr_vI (n := 2) (As := [.int (nI k), .int ld]) (rest := []) ⟨hx, hb, hml, hown, hts⟩ (c_X0_formUnder l D cy h a N L A (nI k) ld hw (by first | assumption | exact Or.inr ⟨_, by assumption, rfl⟩ | exact hw.tn (by assumption) (by assumption))) kg_RX0_104 ⟨rfl, rfl⟩ (by decide +kernel) ⟨Nat.le_of_ble_eq_true rfl, Nat.le_of_ble_eq_true rfl⟩ (kr_pv0 hP hK) rfl hl.1 rfl (Nat.le_of_ble_eq_true rfl) dX0_formOf_12 ⟨Nat.zero_le _, Nat.zero_le _⟩ (fun r9 e9 => ?_)
  subst e9
  exact kr_eI hx hb hr hlocks rfl rfl dX0_formOf_15
set_option maxHeartbeats 4000000 in
set_option maxRecDepth 100000 in
theorem c_X0_spills (l : Launch) (D : va_G) (cy : ClassId) (h : Nat) (a : Nat → Nat) (N L : Nat) (A : Nat → Nat → Int32) (k : Nat) (ld : Int32) (hw : kr_wf N L A) (hk : k < N) (hld : ¬ ld < 1 ∧ ¬ 999 < ld) : Met l yX0_spills (Cond.code yX0_spills cX0_spills 5 (some .int) :: kr_all) ({ frames := 2, cells := 0, slots := 0, locals := 43 }) (va_Pc [.ref h, .int (nI k), .int ld] (kr_R D (kr_W0 cy h a N L A) cy)) (vp_Si (fun r => r = nI (kr_sp A ld 16 (nI k)))) 0 0 (fun _ => False) := by
  refine kr_of (by decide) (Nat.le_of_ble_eq_true rfl) ?_
  intro p e s m below meth c ls hx hb hml hr hts hown hlocks hin hv hl
  obtain ⟨hP, hK⟩ := hv
  have hown : s.vm.findClass RX0 = some m.cls := hown
  have hl : lv_has ls 5 [(0, .ref h), (1, .int (nI k)), (2, .int ld)] := hl
  have hN := hw.1
  refine lv_aload_n hx hb dX0_spills_0 rfl (lv_at hl 0 rfl) ?_
  refine lv_iload_n hx hb dX0_spills_1 rfl (lv_at hl 1 rfl) ?_
  refine kr_vV (n := 1) (As := [.int (nI k)]) (rest := []) ⟨hx, hb, hml, hown, hts⟩ (c_X0_checkKnot l D cy h a N L A k (by omega) (by omega)) kg_RX0_59 ⟨rfl, rfl⟩ (by decide +kernel) ⟨Nat.le_of_ble_eq_true rfl, Nat.le_of_ble_eq_true rfl⟩ (kr_pv0 hP hK) rfl hl.1 rfl (Nat.le_of_ble_eq_true rfl) dX0_spills_2 ⟨Nat.zero_le _, Nat.zero_le _⟩ ?_
  refine lv_iload_n hx hb dX0_spills_5 rfl (lv_at hl 2 rfl) ?_
  refine kr_sV (n := 1) (As := [.int ld]) (rest := []) ⟨hx, hb, hml, hown, hts⟩ (c_X0_checkLoad l ld (by assumption)) kg_RX0_62 ⟨rfl, rfl⟩ (by decide +kernel) ⟨Nat.le_of_ble_eq_true rfl, Nat.le_of_ble_eq_true rfl⟩ ⟨kr_blT, fun U hU hW => ⟨rfl, trivial⟩⟩ rfl hl.1 rfl (Nat.le_of_ble_eq_true rfl) dX0_spills_6 ⟨Nat.zero_le _, Nat.zero_le _⟩ ?_
  refine lv_iload_n hx hb dX0_spills_9 rfl (lv_at hl 1 rfl) ?_
  refine lv_istore_n (lv' := [(3, .int (nI k)), (0, .ref h), (1, .int (nI k)), (2, .int ld)]) hx hb dX0_spills_10 rfl hl (by decide) rfl (fun ls hl => ?_)
  refine lv_iconst (v := 0) hx hb dX0_spills_11 (by decide) ?_
  refine lv_istore (lv' := [(4, .int 0), (3, .int (nI k)), (0, .ref h), (1, .int (nI k)), (2, .int ld)]) hx hb dX0_spills_12 hl (by decide) rfl (fun ls hl => ?_)
  refine kr_lp (nL := 5) (fun z : Nat × Int32 => [(4, .int (nI z.1)), (3, .int z.2), (0, .ref h), (1, .int (nI k)), (2, .int ld)]) (fun z => z.1 ≤ 16 ∧ kr_kn N z.2 ∧ z.1 + kr_sp A ld (16 - z.1) z.2 = kr_sp A ld 16 (nI k)) (fun z => 16 - z.1) ?_ (0, nI k) ⟨by omega, Or.inr ⟨k, hk, rfl⟩, Nat.zero_add _⟩ (lv_sub hl [0, 1, 2, 3, 4] rfl)
  clear hl
  intro z ls hI hl ih
  obtain ⟨i, f⟩ := z
  have hl : lv_has ls 5 [(4, .int (nI i)), (3, .int f), (0, .ref h), (1, .int (nI k)), (2, .int ld)] := hl
  obtain ⟨hi0, hf, he⟩ : i ≤ 16 ∧ kr_kn N f ∧ i + kr_sp A ld (16 - i) f = kr_sp A ld 16 (nI k) := hI
  refine lv_iload hx hb dX0_spills_14 (lv_at hl 0 rfl) ?_
  refine lv_bipush (v := 16) hx hb dX0_spills_16 (by decide) ?_
  refine lv_icmp_ge (tgt := 43) hx hb dX0_spills_18 (by decide) (fun c18 => ?_) (fun c18 => ?_)
  · have hi2 : i = 16 := by have := kr_ge (b := 16) (by omega) (by decide) c18; omega
    subst hi2
    refine lv_iload hx hb dX0_spills_43 (lv_at hl 0 rfl) ?_
    exact kr_eI hx hb hr hlocks rfl (congrArg nI he) dX0_spills_45
  · have hi : i < 16 := kr_lt (b := 16) (by omega) (by decide) c18
    refine lv_aload_n hx hb dX0_spills_21 rfl (lv_at hl 2 rfl) ?_
    refine lv_iload_n hx hb dX0_spills_22 rfl (lv_at hl 1 rfl) ?_
    refine lv_iload_n hx hb dX0_spills_23 rfl (lv_at hl 4 rfl) ?_
    refine kr_vI (n := 2) (As := [.int f, .int ld]) (rest := []) ⟨hx, hb, hml, hown, hts⟩ (c_X0_spillsUnder l D cy h a N L A f ld hw.1 (by assumption)) kg_RX0_121 ⟨rfl, rfl⟩ (by decide +kernel) ⟨Nat.le_of_ble_eq_true rfl, Nat.le_of_ble_eq_true rfl⟩ (kr_pv0 hP hK) rfl hl.1 rfl (Nat.le_of_ble_eq_true rfl) dX0_spills_24 ⟨Nat.zero_le _, Nat.zero_le _⟩ (fun r9 e9 => ?_)
    subst e9
    refine lv_if_eq (tgt := 43) hx hb dX0_spills_27 (by decide) (fun c27 => ?_) (fun c27 => ?_)
    · rw [kr_sp_no (kr_if0 c27)] at he
      refine lv_iload hx hb dX0_spills_43 (lv_at hl 0 rfl) ?_
      exact kr_eI hx hb hr hlocks rfl (congrArg nI he) dX0_spills_45
    · obtain ⟨j, hj, rfl⟩ := kr_go_kn hN hf (kr_if1 c27)
      rw [kr_sp_go hi (by omega) (kr_if1 c27)] at he
      refine lv_aload_n hx hb dX0_spills_30 rfl (lv_at hl 2 rfl) ?_
      refine va_get (ci := 0) (v := .ref (a 4)) (C := RX0) (T := TX0) (N := 10) hx hb hts kr_wsX0 hown hK hP 0 rfl rfl 4 (by decide) (hts _ kq_46) (fun _ h9 => h9) rfl dX0_spills_31 ?_
      refine lv_iload_n hx hb dX0_spills_34 rfl (lv_at hl 1 rfl) ?_
      refine kr_ald hx hb hK hP 5 0 rfl rfl j (by omega) (by decide) dX0_spills_35 ?_
      refine lv_istore_n (lv' := [(3, .int (A 4 j)), (4, .int (nI i)), (0, .ref h), (1, .int (nI k)), (2, .int ld)]) hx hb dX0_spills_36 rfl hl (by decide) rfl (fun ls hl => ?_)
      refine lv_iinc (v := nI (i + 1)) (lv' := [(4, .int (nI (i + 1))), (3, .int (A 4 j)), (0, .ref h), (1, .int (nI k)), (2, .int ld)]) hx hb dX0_spills_37 hl (k := 1) rfl (kr_inc _) (by decide) rfl (fun ls hl => ?_)
      refine lv_goto (tgt := 14) hx hb dX0_spills_40 (by decide) ?_
      exact ih (i + 1, A 4 j) ls ⟨by omega, hw.kn hj, by show i + 1 + kr_sp A ld (16 - (i + 1)) (A 4 j) = _; omega⟩ (by show 16 - (i + 1) < 16 - i; omega) (lv_sub hl [0, 1, 2, 3, 4] rfl)
set_option maxHeartbeats 4000000 in
set_option maxRecDepth 100000 in
theorem c_X0_fallsApartAt (l : Launch) (D : va_G) (cy : ClassId) (h : Nat) (a : Nat → Nat) (N L : Nat) (A : Nat → Nat → Int32) (k : Nat) (hw : kr_wf N L A) (hk : k < N) : Met l yX0_fallsApartAt (Cond.code yX0_fallsApartAt cX0_fallsApartAt 5 (some .int) :: kr_all) ({ frames := 2, cells := 0, slots := 0, locals := 42 }) (va_Pc [.ref h, .int (nI k)] (kr_R D (kr_W0 cy h a N L A) cy)) (vp_Si (fun r => r = kr_fa A 16 (nI k) 0)) 0 0 (fun _ => False) := by
  refine kr_of (by decide) (Nat.le_of_ble_eq_true rfl) ?_
  intro p e s m below meth c ls hx hb hml hr hts hown hlocks hin hv hl
  obtain ⟨hP, hK⟩ := hv
  have hown : s.vm.findClass RX0 = some m.cls := hown
  have hl : lv_has ls 5 [(0, .ref h), (1, .int (nI k))] := hl
  have hN := hw.1
  refine lv_aload_n hx hb dX0_fallsApartAt_0 rfl (lv_at hl 0 rfl) ?_
  refine lv_iload_n hx hb dX0_fallsApartAt_1 rfl (lv_at hl 1 rfl) ?_
  refine kr_vV (n := 1) (As := [.int (nI k)]) (rest := []) ⟨hx, hb, hml, hown, hts⟩ (c_X0_checkKnot l D cy h a N L A k (by omega) (by omega)) kg_RX0_59 ⟨rfl, rfl⟩ (by decide +kernel) ⟨Nat.le_of_ble_eq_true rfl, Nat.le_of_ble_eq_true rfl⟩ (kr_pv0 hP hK) rfl hl.1 rfl (Nat.le_of_ble_eq_true rfl) dX0_fallsApartAt_2 ⟨Nat.zero_le _, Nat.zero_le _⟩ ?_
  refine lv_iload_n hx hb dX0_fallsApartAt_5 rfl (lv_at hl 1 rfl) ?_
  refine lv_istore_n (lv' := [(2, .int (nI k)), (0, .ref h), (1, .int (nI k))]) hx hb dX0_fallsApartAt_6 rfl hl (by decide) rfl (fun ls hl => ?_)
  refine lv_iconst (v := 0) hx hb dX0_fallsApartAt_7 (by decide) ?_
  refine lv_istore_n (lv' := [(3, .int 0), (2, .int (nI k)), (0, .ref h), (1, .int (nI k))]) hx hb dX0_fallsApartAt_8 rfl hl (by decide) rfl (fun ls hl => ?_)
  refine lv_iconst (v := 0) hx hb dX0_fallsApartAt_9 (by decide) ?_
  refine lv_istore (lv' := [(4, .int 0), (3, .int 0), (2, .int (nI k)), (0, .ref h), (1, .int (nI k))]) hx hb dX0_fallsApartAt_10 hl (by decide) rfl (fun ls hl => ?_)
  refine kr_lp (nL := 5) (fun z : Nat × Int32 × Int32 => [(4, .int (nI z.1)), (3, .int z.2.2), (2, .int z.2.1), (0, .ref h), (1, .int (nI k))]) (fun z => z.1 ≤ 16 ∧ kr_kn N z.2.1 ∧ kr_fa A (16 - z.1) z.2.1 z.2.2 = kr_fa A 16 (nI k) 0) (fun z => 16 - z.1) ?_ (0, nI k, 0) ⟨by omega, Or.inr ⟨k, hk, rfl⟩, rfl⟩ (lv_sub hl [0, 1, 2, 3, 4] rfl)
  clear hl
  intro z ls hI hl ih
  obtain ⟨i, f, g⟩ := z
  have hl : lv_has ls 5 [(4, .int (nI i)), (3, .int g), (2, .int f), (0, .ref h), (1, .int (nI k))] := hl
  obtain ⟨hi0, hf, he⟩ : i ≤ 16 ∧ kr_kn N f ∧ kr_fa A (16 - i) f g = kr_fa A 16 (nI k) 0 := hI
  refine lv_iload hx hb dX0_fallsApartAt_12 (lv_at hl 0 rfl) ?_
  refine lv_bipush (v := 16) hx hb dX0_fallsApartAt_14 (by decide) ?_
  refine lv_icmp_ge (tgt := 62) hx hb dX0_fallsApartAt_16 (by decide) (fun c16 => ?_) (fun c16 => ?_)
  · have hi2 : i = 16 := by have := kr_ge (b := 16) (by omega) (by decide) c16; omega
    subst hi2
    refine lv_iload_n hx hb dX0_fallsApartAt_62 rfl (lv_at hl 1 rfl) ?_
    exact kr_eI hx hb hr hlocks rfl he dX0_fallsApartAt_63
  · have hi : i < 16 := kr_lt (b := 16) (by omega) (by decide) c16
    refine lv_aload_n hx hb dX0_fallsApartAt_19 rfl (lv_at hl 3 rfl) ?_
    refine lv_iload_n hx hb dX0_fallsApartAt_20 rfl (lv_at hl 2 rfl) ?_
    refine kr_vI (n := 1) (As := [.int f]) (rest := []) ⟨hx, hb, hml, hown, hts⟩ (c_X0_isKnot l D cy h a N L A f) kg_RX0_125 ⟨rfl, rfl⟩ (by decide +kernel) ⟨Nat.le_of_ble_eq_true rfl, Nat.le_of_ble_eq_true rfl⟩ (kr_pv0 hP hK) rfl hl.1 rfl (Nat.le_of_ble_eq_true rfl) dX0_fallsApartAt_21 ⟨Nat.zero_le _, Nat.zero_le _⟩ (fun r9 e9 => ?_)
    subst e9
    refine lv_if_eq (tgt := 62) hx hb dX0_fallsApartAt_24 (by decide) (fun c24 => ?_) (fun c24 => ?_)
    · have hf2 := kr_isK3 hN hf (kr_if0 c24)
      subst hf2
      refine lv_iload_n hx hb dX0_fallsApartAt_62 rfl (lv_at hl 1 rfl) ?_
      exact kr_eI hx hb hr hlocks rfl ((kr_fa_no _).symm.trans he) dX0_fallsApartAt_63
    · obtain ⟨j, hj, rfl⟩ := kr_isK hN hf (kr_if1 c24)
      refine lv_aload_n hx hb dX0_fallsApartAt_27 rfl (lv_at hl 3 rfl) ?_
      refine va_get (ci := 0) (v := .ref (a 3)) (C := RX0) (T := TX0) (N := 10) hx hb hts kr_wsX0 hown hK hP 0 rfl rfl 3 (by decide) (hts _ kq_45) (fun _ h9 => h9) rfl dX0_fallsApartAt_28 ?_
      refine lv_iload_n hx hb dX0_fallsApartAt_31 rfl (lv_at hl 2 rfl) ?_
      refine kr_ald hx hb hK hP 4 0 rfl rfl j (by omega) (by decide) dX0_fallsApartAt_32 ?_
      refine lv_if_ne (tgt := 38) hx hb dX0_fallsApartAt_33 (by decide) (fun c33 => ?_) (fun c33 => ?_)
      · rw [kr_fa_s hi (by omega) c33] at he
        refine lv_iload_n hx hb dX0_fallsApartAt_38 rfl (lv_at hl 1 rfl) ?_
        refine lv_aload_n hx hb dX0_fallsApartAt_39 rfl (lv_at hl 3 rfl) ?_
        refine va_get (ci := 0) (v := .ref (a 3)) (C := RX0) (T := TX0) (N := 10) hx hb hts kr_wsX0 hown hK hP 0 rfl rfl 3 (by decide) (hts _ kq_45) (fun _ h9 => h9) rfl dX0_fallsApartAt_40 ?_
        refine lv_iload_n hx hb dX0_fallsApartAt_43 rfl (lv_at hl 2 rfl) ?_
        refine kr_ald hx hb hK hP 4 0 rfl rfl j (by omega) (by decide) dX0_fallsApartAt_44 ?_
        refine va_mmax hx hb (hml.trans hl.1.symm) hown (hts _ kq_310) (hts _ kq_311) (hts _ kq_33) (hts _ kq_312) (Nat.le_of_ble_eq_true rfl) (Nat.le_of_ble_eq_true rfl) (Nat.zero_le _) (Nat.zero_le _) dX0_fallsApartAt_45 ?_
        show W _ _ _ _ _ _ _ _ _ _ _ _ _ _ _ (F0 _ _ _ (.int (kr_mx g (A 3 j)) :: _))
        refine lv_istore_n (lv' := [(3, .int (kr_mx g (A 3 j))), (4, .int (nI i)), (2, .int (nI j)), (0, .ref h), (1, .int (nI k))]) hx hb dX0_fallsApartAt_48 rfl hl (by decide) rfl (fun ls hl => ?_)
        refine lv_aload_n hx hb dX0_fallsApartAt_49 rfl (lv_at hl 3 rfl) ?_
        refine va_get (ci := 0) (v := .ref (a 4)) (C := RX0) (T := TX0) (N := 10) hx hb hts kr_wsX0 hown hK hP 0 rfl rfl 4 (by decide) (hts _ kq_46) (fun _ h9 => h9) rfl dX0_fallsApartAt_50 ?_
        refine lv_iload_n hx hb dX0_fallsApartAt_53 rfl (lv_at hl 2 rfl) ?_
        refine kr_ald hx hb hK hP 5 0 rfl rfl j (by omega) (by decide) dX0_fallsApartAt_54 ?_
        refine lv_istore_n (lv' := [(2, .int (A 4 j)), (3, .int (kr_mx g (A 3 j))), (4, .int (nI i)), (0, .ref h), (1, .int (nI k))]) hx hb dX0_fallsApartAt_55 rfl hl (by decide) rfl (fun ls hl => ?_)
        refine lv_iinc (v := nI (i + 1)) (lv' := [(4, .int (nI (i + 1))), (2, .int (A 4 j)), (3, .int (kr_mx g (A 3 j))), (0, .ref h), (1, .int (nI k))]) hx hb dX0_fallsApartAt_56 hl (k := 2) rfl (kr_inc _) (by decide) rfl (fun ls hl => ?_)
        refine lv_goto (tgt := 12) hx hb dX0_fallsApartAt_59 (by decide) ?_
        exact ih (i + 1, A 4 j, kr_mx g (A 3 j)) ls ⟨by omega, hw.kn hj, he⟩ (by show 16 - (i + 1) < 16 - i; omega) (lv_sub hl [0, 2, 1, 3, 4] rfl)
      · refine lv_iconst (v := 0) hx hb dX0_fallsApartAt_36 (by decide) ?_
        exact kr_eI hx hb hr hlocks rfl ((kr_fa_0 hi (by omega) c33).symm.trans he) dX0_fallsApartAt_37
set_option maxHeartbeats 4000000 in
set_option maxRecDepth 100000 in
theorem c_X0_ropesOf (l : Launch) (D : va_G) (cy : ClassId) (h : Nat) (a : Nat → Nat) (N L : Nat) (A : Nat → Nat → Int32) (q : Nat) (hw : kr_wf N L A) (hq : q < L) : Met l yX0_ropesOf (Cond.code yX0_ropesOf cX0_ropesOf 2 (some .int) :: kr_all) ({ frames := 1, cells := 0, slots := 0, locals := 21 }) (va_Pc [.ref h, .int (nI q)] (kr_R D (kr_W0 cy h a N L A) cy)) (vp_Si (fun r => r = A 5 q)) 0 0 (fun _ => False) := by
  refine kr_of (by decide) (Nat.le_of_ble_eq_true rfl) ?_
  intro p e s m below meth c ls hx hb hml hr hts hown hlocks hin hv hl
  obtain ⟨hP, hK⟩ := hv
  have hown : s.vm.findClass RX0 = some m.cls := hown
  have hl : lv_has ls 2 [(0, .ref h), (1, .int (nI q))] := hl
  have hL := hw.2.1
  refine lv_aload_n hx hb dX0_ropesOf_0 rfl (lv_at hl 0 rfl) ?_
  refine lv_iload_n hx hb dX0_ropesOf_1 rfl (lv_at hl 1 rfl) ?_
  refine kr_vV (n := 1) (As := [.int (nI q)]) (rest := []) ⟨hx, hb, hml, hown, hts⟩ (c_X0_checkLine l D cy h a N L A q (by omega) (by omega)) kg_RX0_82 ⟨rfl, rfl⟩ (by decide +kernel) ⟨Nat.le_of_ble_eq_true rfl, Nat.le_of_ble_eq_true rfl⟩ (kr_pv0 hP hK) rfl hl.1 rfl (Nat.le_of_ble_eq_true rfl) dX0_ropesOf_2 ⟨Nat.zero_le _, Nat.zero_le _⟩ ?_
  refine lv_aload_n hx hb dX0_ropesOf_5 rfl (lv_at hl 0 rfl) ?_
  refine va_get (ci := 0) (v := .ref (a 5)) (C := RX0) (T := TX0) (N := 10) hx hb hts kr_wsX0 hown hK hP 0 rfl rfl 6 (by decide) (hts _ kq_48) (fun _ h9 => h9) rfl dX0_ropesOf_6 ?_
  refine lv_iload_n hx hb dX0_ropesOf_9 rfl (lv_at hl 1 rfl) ?_
  refine kr_ald hx hb hK hP 6 0 rfl rfl q (by omega) (by decide) dX0_ropesOf_10 ?_
  exact kr_eI hx hb hr hlocks rfl rfl dX0_ropesOf_11
theorem kg_RX0_90 : GoodIn kr_all (wsV RX0 90 RX0 yX0_checkPlace (Cond.code yX0_checkPlace cX0_checkPlace 3 none :: kr_all)) := kr_gV kq_78 kq_80 kq_0 kq_25 kq_81
set_option maxHeartbeats 4000000 in
set_option maxRecDepth 100000 in
theorem c_X0_knotOf (l : Launch) (D : va_G) (cy : ClassId) (h : Nat) (a : Nat → Nat) (N L : Nat) (A : Nat → Nat → Int32) (q pl : Nat) (hw : kr_wf N L A) (hq : q < L) (hp : pl < kr_rc A q) : Met l yX0_knotOf (Cond.code yX0_knotOf cX0_knotOf 3 (some .int) :: kr_all) ({ frames := 2, cells := 0, slots := 0, locals := 43 }) (va_Pc [.ref h, .int (nI q), .int (nI pl)] (kr_R D (kr_W0 cy h a N L A) cy)) (vp_Si (fun r => r = A 6 (5 * q + pl))) 0 0 (fun _ => False) := by
  refine kr_of (by decide) (Nat.le_of_ble_eq_true rfl) ?_
  intro p e s m below meth c ls hx hb hml hr hts hown hlocks hin hv hl
  obtain ⟨hP, hK⟩ := hv
  have hown : s.vm.findClass RX0 = some m.cls := hown
  have hl : lv_has ls 3 [(0, .ref h), (1, .int (nI q)), (2, .int (nI pl))] := hl
  have hL := hw.2.1
  obtain ⟨hrc, er⟩ := hw.rc hq
  refine lv_aload_n hx hb dX0_knotOf_0 rfl (lv_at hl 0 rfl) ?_
  refine lv_iload_n hx hb dX0_knotOf_1 rfl (lv_at hl 1 rfl) ?_
  refine lv_iload_n hx hb dX0_knotOf_2 rfl (lv_at hl 2 rfl) ?_
  refine kr_vV (n := 2) (As := [.int (nI q), .int (nI pl)]) (rest := []) ⟨hx, hb, hml, hown, hts⟩ (c_X0_checkPlace l D cy h a N L A q pl hw (by omega) (by omega)) kg_RX0_90 ⟨rfl, rfl⟩ (by decide +kernel) ⟨Nat.le_of_ble_eq_true rfl, Nat.le_of_ble_eq_true rfl⟩ (kr_pv0 hP hK) rfl hl.1 rfl (Nat.le_of_ble_eq_true rfl) dX0_knotOf_3 ⟨Nat.zero_le _, Nat.zero_le _⟩ ?_
  refine lv_aload_n hx hb dX0_knotOf_6 rfl (lv_at hl 0 rfl) ?_
  refine va_get (ci := 0) (v := .ref (a 6)) (C := RX0) (T := TX0) (N := 10) hx hb hts kr_wsX0 hown hK hP 0 rfl rfl 8 (by decide) (hts _ kq_50) (fun _ h9 => h9) rfl dX0_knotOf_7 ?_
  refine lv_iload_n hx hb dX0_knotOf_10 rfl (lv_at hl 1 rfl) ?_
  refine lv_iload_n hx hb dX0_knotOf_11 rfl (lv_at hl 2 rfl) ?_
  refine kr_sI (n := 2) (As := [.int (nI q), .int (nI pl)]) (rest := [.ref (a 6)]) ⟨hx, hb, hml, hown, hts⟩ (c_X0_slot l q pl) kg_RX0_97 ⟨rfl, rfl⟩ (by decide +kernel) ⟨Nat.le_of_ble_eq_true rfl, Nat.le_of_ble_eq_true rfl⟩ ⟨kr_blT, fun U hU hW => ⟨rfl, trivial⟩⟩ rfl hl.1 rfl (Nat.le_of_ble_eq_true rfl) dX0_knotOf_12 ⟨Nat.zero_le _, Nat.zero_le _⟩ (fun r9 e9 => ?_)
  subst e9
  refine kr_ald hx hb hK hP 7 0 rfl rfl (5 * q + pl) (by omega) (by decide) dX0_knotOf_15 ?_
  exact kr_eI hx hb hr hlocks rfl rfl dX0_knotOf_16
theorem kg_RX0_134 : GoodIn kr_all (wsV RX0 134 RX0 yX0_currentStrength (Cond.code yX0_currentStrength cX0_currentStrength 3 (some .int) :: kr_all)) := kr_gV kq_329 kq_331 kq_17 kq_25 kq_332
set_option maxHeartbeats 4000000 in
set_option maxRecDepth 100000 in
theorem c_X0_strengthAt (l : Launch) (D : va_G) (cy : ClassId) (h : Nat) (a : Nat → Nat) (N L : Nat) (A : Nat → Nat → Int32) (q pl : Nat) (hw : kr_wf N L A) (hq : q < L) (hp : pl < kr_rc A q) : Met l yX0_strengthAt (Cond.code yX0_strengthAt cX0_strengthAt 3 (some .int) :: kr_all) ({ frames := 3, cells := 0, slots := 0, locals := 67 }) (va_Pc [.ref h, .int (nI q), .int (nI pl)] (kr_R D (kr_W0 cy h a N L A) cy)) (vp_Si (fun r => r = kr_nw A q pl)) 0 0 (fun _ => False) := by
  refine kr_of (by decide) (Nat.le_of_ble_eq_true rfl) ?_
  intro p e s m below meth c ls hx hb hml hr hts hown hlocks hin hv hl
  obtain ⟨hP, hK⟩ := hv
  have hown : s.vm.findClass RX0 = some m.cls := hown
  have hl : lv_has ls 3 [(0, .ref h), (1, .int (nI q)), (2, .int (nI pl))] := hl
  have hL := hw.2.1
  obtain ⟨hrc, er⟩ := hw.rc hq
  refine lv_aload_n hx hb dX0_strengthAt_0 rfl (lv_at hl 0 rfl) ?_
  refine lv_iload_n hx hb dX0_strengthAt_1 rfl (lv_at hl 1 rfl) ?_
  refine lv_iload_n hx hb dX0_strengthAt_2 rfl (lv_at hl 2 rfl) ?_
  refine kr_vV (n := 2) (As := [.int (nI q), .int (nI pl)]) (rest := []) ⟨hx, hb, hml, hown, hts⟩ (c_X0_checkPlace l D cy h a N L A q pl hw (by omega) (by omega)) kg_RX0_90 ⟨rfl, rfl⟩ (by decide +kernel) ⟨Nat.le_of_ble_eq_true rfl, Nat.le_of_ble_eq_true rfl⟩ (kr_pv0 hP hK) rfl hl.1 rfl (Nat.le_of_ble_eq_true rfl) dX0_strengthAt_3 ⟨Nat.zero_le _, Nat.zero_le _⟩ ?_
  refine lv_aload_n hx hb dX0_strengthAt_6 rfl (lv_at hl 0 rfl) ?_
  refine lv_iload_n hx hb dX0_strengthAt_7 rfl (lv_at hl 1 rfl) ?_
  refine lv_iload_n hx hb dX0_strengthAt_8 rfl (lv_at hl 2 rfl) ?_
  refine kr_vI (n := 2) (As := [.int (nI q), .int (nI pl)]) (rest := []) ⟨hx, hb, hml, hown, hts⟩ (c_X0_currentStrength l D cy h a N L A q pl hw (by omega) (by omega)) kg_RX0_134 ⟨rfl, rfl⟩ (by decide +kernel) ⟨Nat.le_of_ble_eq_true rfl, Nat.le_of_ble_eq_true rfl⟩ (kr_pv0 hP hK) rfl hl.1 rfl (Nat.le_of_ble_eq_true rfl) dX0_strengthAt_9 ⟨Nat.zero_le _, Nat.zero_le _⟩ (fun r9 e9 => ?_)
  subst e9
  exact kr_eI hx hb hr hlocks rfl rfl dX0_strengthAt_12
set_option maxHeartbeats 4000000 in
set_option maxRecDepth 100000 in
theorem c_X0_weakestPlace (l : Launch) (D : va_G) (cy : ClassId) (h : Nat) (a : Nat → Nat) (N L : Nat) (A : Nat → Nat → Int32) (q : Nat) (hw : kr_wf N L A) (hq : q < L) : Met l yX0_weakestPlace (Cond.code yX0_weakestPlace cX0_weakestPlace 6 (some .int) :: kr_all) ({ frames := 3, cells := 0, slots := 0, locals := 67 }) (va_Pc [.ref h, .int (nI q)] (kr_R D (kr_W0 cy h a N L A) cy)) (vp_Si (fun r => r = kr_wk A q (kr_rc A q) 0 (-1))) 0 0 (fun _ => False) := by
  refine kr_of (by decide) (Nat.le_of_ble_eq_true rfl) ?_
  intro p e s m below meth c ls hx hb hml hr hts hown hlocks hin hv hl
  obtain ⟨hP, hK⟩ := hv
  have hown : s.vm.findClass RX0 = some m.cls := hown
  have hl : lv_has ls 6 [(0, .ref h), (1, .int (nI q))] := hl
  have hL := hw.2.1
  obtain ⟨hrc, er⟩ := hw.rc hq
  refine lv_aload_n hx hb dX0_weakestPlace_0 rfl (lv_at hl 0 rfl) ?_
  refine lv_iload_n hx hb dX0_weakestPlace_1 rfl (lv_at hl 1 rfl) ?_
  refine kr_vV (n := 1) (As := [.int (nI q)]) (rest := []) ⟨hx, hb, hml, hown, hts⟩ (c_X0_checkLine l D cy h a N L A q (by omega) (by omega)) kg_RX0_82 ⟨rfl, rfl⟩ (by decide +kernel) ⟨Nat.le_of_ble_eq_true rfl, Nat.le_of_ble_eq_true rfl⟩ (kr_pv0 hP hK) rfl hl.1 rfl (Nat.le_of_ble_eq_true rfl) dX0_weakestPlace_2 ⟨Nat.zero_le _, Nat.zero_le _⟩ ?_
  refine lv_iconst (v := -1) hx hb dX0_weakestPlace_5 (by decide) ?_
  refine lv_istore_n (lv' := [(2, .int (-1)), (0, .ref h), (1, .int (nI q))]) hx hb dX0_weakestPlace_6 rfl hl (by decide) rfl (fun ls hl => ?_)
  refine lv_ldc (v := 2147483647) hx hb hown (hts _ kq_337) dX0_weakestPlace_7 ?_
  refine lv_istore_n (lv' := [(3, .int 2147483647), (2, .int (-1)), (0, .ref h), (1, .int (nI q))]) hx hb dX0_weakestPlace_9 rfl hl (by decide) rfl (fun ls hl => ?_)
  refine lv_iconst (v := 0) hx hb dX0_weakestPlace_10 (by decide) ?_
  refine lv_istore (lv' := [(4, .int 0), (3, .int 2147483647), (2, .int (-1)), (0, .ref h), (1, .int (nI q))]) hx hb dX0_weakestPlace_11 hl (by decide) rfl (fun ls hl => ?_)
  refine kr_lp (nL := 6) (fun z : Nat × Int32 × Int32 => [(4, .int (nI z.1)), (3, .int z.2.2), (2, .int z.2.1), (0, .ref h), (1, .int (nI q))]) (fun z => z.1 ≤ kr_rc A q ∧ ((z.2.1 = -1 ∧ z.2.2 = 2147483647) ∨ ∃ j, j < kr_rc A q ∧ z.2.1 = nI j ∧ z.2.2 = kr_nw A q j) ∧ kr_wk A q (kr_rc A q - z.1) z.1 z.2.1 = kr_wk A q (kr_rc A q) 0 (-1)) (fun z => kr_rc A q - z.1) ?_ (0, -1, 2147483647) ⟨by omega, Or.inl ⟨rfl, rfl⟩, rfl⟩ (lv_sub hl [0, 1, 2, 3, 4] rfl)
  clear hl
  intro z ls hI hl ih
  obtain ⟨i, b, g⟩ := z
  have hl : lv_has ls 6 [(4, .int (nI i)), (3, .int g), (2, .int b), (0, .ref h), (1, .int (nI q))] := hl
  obtain ⟨hi0, hb2, he⟩ : i ≤ kr_rc A q ∧ ((b = -1 ∧ g = 2147483647) ∨ ∃ j, j < kr_rc A q ∧ b = nI j ∧ g = kr_nw A q j) ∧ kr_wk A q (kr_rc A q - i) i b = kr_wk A q (kr_rc A q) 0 (-1) := hI
  refine lv_iload hx hb dX0_weakestPlace_13 (lv_at hl 0 rfl) ?_
  refine lv_aload_n hx hb dX0_weakestPlace_15 rfl (lv_at hl 3 rfl) ?_
  refine va_get (ci := 0) (v := .ref (a 5)) (C := RX0) (T := TX0) (N := 10) hx hb hts kr_wsX0 hown hK hP 0 rfl rfl 6 (by decide) (hts _ kq_48) (fun _ h9 => h9) rfl dX0_weakestPlace_16 ?_
  refine lv_iload_n hx hb dX0_weakestPlace_19 rfl (lv_at hl 4 rfl) ?_
  refine kr_ald hx hb hK hP 6 0 rfl rfl q (by omega) (by decide) dX0_weakestPlace_20 ?_
  rw [er]
  refine lv_icmp_ge (tgt := 51) hx hb dX0_weakestPlace_21 (by decide) (fun c21 => ?_) (fun c21 => ?_)
  · have hi2 : i = kr_rc A q := by have := kr_ge (by omega) (by omega) c21; omega
    subst hi2
    refine lv_iload_n hx hb dX0_weakestPlace_51 rfl (lv_at hl 2 rfl) ?_
    exact kr_eI hx hb hr hlocks rfl (by rw [Nat.sub_self] at he; exact he) dX0_weakestPlace_52
  · have hi : i < kr_rc A q := kr_lt (by omega) (by omega) c21
    rw [kr_wk_s hi] at he
    refine lv_aload_n hx hb dX0_weakestPlace_24 rfl (lv_at hl 3 rfl) ?_
    refine lv_iload_n hx hb dX0_weakestPlace_25 rfl (lv_at hl 4 rfl) ?_
    refine lv_iload hx hb dX0_weakestPlace_26 (lv_at hl 0 rfl) ?_
    refine kr_vI (n := 2) (As := [.int (nI q), .int (nI i)]) (rest := []) ⟨hx, hb, hml, hown, hts⟩ (c_X0_currentStrength l D cy h a N L A q i hw (by omega) (by omega)) kg_RX0_134 ⟨rfl, rfl⟩ (by decide +kernel) ⟨Nat.le_of_ble_eq_true rfl, Nat.le_of_ble_eq_true rfl⟩ (kr_pv0 hP hK) rfl hl.1 rfl (Nat.le_of_ble_eq_true rfl) dX0_weakestPlace_28 ⟨Nat.zero_le _, Nat.zero_le _⟩ (fun r9 e9 => ?_)
    subst e9
    refine lv_istore (lv' := [(5, .int (kr_nw A q i)), (4, .int (nI i)), (3, .int g), (2, .int b), (0, .ref h), (1, .int (nI q))]) hx hb dX0_weakestPlace_31 hl (by decide) rfl (fun ls hl => ?_)
    refine lv_iload hx hb dX0_weakestPlace_33 (lv_at hl 0 rfl) ?_
    refine lv_iload_n hx hb dX0_weakestPlace_35 rfl (lv_at hl 2 rfl) ?_
    refine lv_icmp_ge (tgt := 45) hx hb dX0_weakestPlace_36 (by decide) (fun c36 => ?_) (fun c36 => ?_)
    · have hno : ¬ (b = -1 ∨ kr_nw A q i < kr_nw A q (kr_ix b)) := by
        rcases hb2 with ⟨rfl, rfl⟩ | ⟨j, hj, rfl, rfl⟩
        · exact absurd (kr_nw_lt q i) (kr_ngt2 c36)
        · rw [kr_ix_nI (by omega)]; exact fun z => z.elim (kr_kn_ne (by omega)) (kr_ngt2 c36)
      rw [if_neg hno] at he
      refine lv_iinc (v := nI (i + 1)) (lv' := [(4, .int (nI (i + 1))), (5, .int (kr_nw A q i)), (3, .int g), (2, .int b), (0, .ref h), (1, .int (nI q))]) hx hb dX0_weakestPlace_45 hl (k := 1) rfl (kr_inc _) (by decide) rfl (fun ls hl => ?_)
      refine lv_goto (tgt := 13) hx hb dX0_weakestPlace_48 (by decide) ?_
      exact ih (i + 1, b, g) ls ⟨by omega, hb2, he⟩ (by show kr_rc A q - (i + 1) < kr_rc A q - i; omega) (lv_sub hl [0, 2, 3, 4, 5] rfl)
    · have hyes : b = -1 ∨ kr_nw A q i < kr_nw A q (kr_ix b) := by
        rcases hb2 with ⟨rfl, rfl⟩ | ⟨j, hj, rfl, rfl⟩
        · exact Or.inl rfl
        · rw [kr_ix_nI (by omega)]; exact Or.inr (kr_nle2 c36)
      rw [if_pos hyes] at he
      refine lv_iload hx hb dX0_weakestPlace_39 (lv_at hl 1 rfl) ?_
      refine lv_istore_n (lv' := [(2, .int (nI i)), (5, .int (kr_nw A q i)), (4, .int (nI i)), (3, .int g), (0, .ref h), (1, .int (nI q))]) hx hb dX0_weakestPlace_41 rfl hl (by decide) rfl (fun ls hl => ?_)
      refine lv_iload hx hb dX0_weakestPlace_42 (lv_at hl 1 rfl) ?_
      refine lv_istore_n (lv' := [(3, .int (kr_nw A q i)), (2, .int (nI i)), (5, .int (kr_nw A q i)), (4, .int (nI i)), (0, .ref h), (1, .int (nI q))]) hx hb dX0_weakestPlace_44 rfl hl (by decide) rfl (fun ls hl => ?_)
      refine lv_iinc (v := nI (i + 1)) (lv' := [(4, .int (nI (i + 1))), (3, .int (kr_nw A q i)), (2, .int (nI i)), (5, .int (kr_nw A q i)), (0, .ref h), (1, .int (nI q))]) hx hb dX0_weakestPlace_45 hl (k := 3) rfl (kr_inc _) (by decide) rfl (fun ls hl => ?_)
      refine lv_goto (tgt := 13) hx hb dX0_weakestPlace_48 (by decide) ?_
      exact ih (i + 1, nI i, kr_nw A q i) ls ⟨by omega, Or.inr ⟨i, by omega, rfl, rfl⟩, he⟩ (by show kr_rc A q - (i + 1) < kr_rc A q - i; omega) (lv_sub hl [0, 1, 2, 4, 5] rfl)
theorem kg_RX0_101 : GoodIn kr_all (wsV RX0 101 RX0 yX0_firstPlaceToGiveWay (Cond.code yX0_firstPlaceToGiveWay cX0_firstPlaceToGiveWay 4 (some .int) :: kr_all)) := kr_gV kq_222 kq_224 kq_8 kq_25 kq_225
set_option maxHeartbeats 4000000 in
set_option maxRecDepth 100000 in
theorem c_X0_holds (l : Launch) (D : va_G) (cy : ClassId) (h : Nat) (a : Nat → Nat) (N L : Nat) (A : Nat → Nat → Int32) (q : Nat) (ld : Int32) (hw : kr_wf N L A) (hq : q < L) (hld : ¬ ld < 1 ∧ ¬ 999 < ld) : Met l yX0_holds (Cond.code yX0_holds cX0_holds 3 (some .boolean) :: kr_all) ({ frames := 5, cells := 0, slots := 0, locals := 114 }) (va_Pc [.ref h, .int (nI q), .int ld] (kr_R D (kr_W0 cy h a N L A) cy)) (vp_Si (fun r => r = if ¬ A 5 q = 0 ∧ kr_gw A q ld = -1 then 1 else 0)) 0 0 (fun _ => False) := by
  refine kr_of (by decide) (Nat.le_of_ble_eq_true rfl) ?_
  intro p e s m below meth c ls hx hb hml hr hts hown hlocks hin hv hl
  obtain ⟨hP, hK⟩ := hv
  have hown : s.vm.findClass RX0 = some m.cls := hown
  have hl : lv_has ls 3 [(0, .ref h), (1, .int (nI q)), (2, .int ld)] := hl
  have hL := hw.2.1
  refine lv_aload_n hx hb dX0_holds_0 rfl (lv_at hl 0 rfl) ?_
  refine lv_iload_n hx hb dX0_holds_1 rfl (lv_at hl 1 rfl) ?_
  refine kr_vV (n := 1) (As := [.int (nI q)]) (rest := []) ⟨hx, hb, hml, hown, hts⟩ (c_X0_checkLine l D cy h a N L A q (by omega) (by omega)) kg_RX0_82 ⟨rfl, rfl⟩ (by decide +kernel) ⟨Nat.le_of_ble_eq_true rfl, Nat.le_of_ble_eq_true rfl⟩ (kr_pv0 hP hK) rfl hl.1 rfl (Nat.le_of_ble_eq_true rfl) dX0_holds_2 ⟨Nat.zero_le _, Nat.zero_le _⟩ ?_
  refine lv_iload_n hx hb dX0_holds_5 rfl (lv_at hl 2 rfl) ?_
  refine kr_sV (n := 1) (As := [.int ld]) (rest := []) ⟨hx, hb, hml, hown, hts⟩ (c_X0_checkLoad l ld (by assumption)) kg_RX0_62 ⟨rfl, rfl⟩ (by decide +kernel) ⟨Nat.le_of_ble_eq_true rfl, Nat.le_of_ble_eq_true rfl⟩ ⟨kr_blT, fun U hU hW => ⟨rfl, trivial⟩⟩ rfl hl.1 rfl (Nat.le_of_ble_eq_true rfl) dX0_holds_6 ⟨Nat.zero_le _, Nat.zero_le _⟩ ?_
  refine lv_aload_n hx hb dX0_holds_9 rfl (lv_at hl 0 rfl) ?_
  refine lv_iload_n hx hb dX0_holds_10 rfl (lv_at hl 1 rfl) ?_
  refine kr_vI (n := 1) (As := [.int (nI q)]) (rest := []) ⟨hx, hb, hml, hown, hts⟩ (c_X0_isGone l D cy h a N L A q (by omega)) kg_RX0_140 ⟨rfl, rfl⟩ (by decide +kernel) ⟨Nat.le_of_ble_eq_true rfl, Nat.le_of_ble_eq_true rfl⟩ (kr_pv0 hP hK) rfl hl.1 rfl (Nat.le_of_ble_eq_true rfl) dX0_holds_11 ⟨Nat.zero_le _, Nat.zero_le _⟩ (fun r9 e9 => ?_)
  subst e9
  refine lv_if_ne (tgt := 31) hx hb dX0_holds_14 (by decide) (fun c14 => ?_) (fun c14 => ?_)
  · refine lv_iconst (v := 0) hx hb dX0_holds_31 (by decide) ?_
    exact kr_eZ hx hb hr hlocks rfl (Or.inl rfl) (if_neg (fun z => z.1 (kr_if1 c14))).symm dX0_holds_32
  · refine lv_aload_n hx hb dX0_holds_17 rfl (lv_at hl 0 rfl) ?_
    refine lv_iload_n hx hb dX0_holds_18 rfl (lv_at hl 1 rfl) ?_
    refine lv_iload_n hx hb dX0_holds_19 rfl (lv_at hl 2 rfl) ?_
    refine kr_vI (n := 2) (As := [.int (nI q), .int ld]) (rest := []) ⟨hx, hb, hml, hown, hts⟩ (c_X0_firstPlaceToGiveWay l D cy h a N L A q ld hw (by omega)) kg_RX0_101 ⟨rfl, rfl⟩ (by decide +kernel) ⟨Nat.le_of_ble_eq_true rfl, Nat.le_of_ble_eq_true rfl⟩ (kr_pv0 hP hK) rfl hl.1 rfl (Nat.le_of_ble_eq_true rfl) dX0_holds_20 ⟨Nat.zero_le _, Nat.zero_le _⟩ (fun r9 e9 => ?_)
    subst e9
    refine lv_iconst (v := -1) hx hb dX0_holds_23 (by decide) ?_
    refine lv_icmp_ne (tgt := 31) hx hb dX0_holds_24 (by decide) (fun c24 => ?_) (fun c24 => ?_)
    · refine lv_iconst (v := 0) hx hb dX0_holds_31 (by decide) ?_
      exact kr_eZ hx hb hr hlocks rfl (Or.inl rfl) (if_neg (fun z => c24 z.2)).symm dX0_holds_32
    · refine lv_iconst (v := 1) hx hb dX0_holds_27 (by decide) ?_
      refine lv_goto (tgt := 32) hx hb dX0_holds_28 (by decide) ?_
      exact kr_eZ hx hb hr hlocks rfl (Or.inr rfl) (if_pos ⟨kr_if0 c14, c24⟩).symm dX0_holds_32
theorem kg_RX0_143 : GoodIn kr_all (wsV RX0 143 RX0 yX0_loadHeldWith (Cond.code yX0_loadHeldWith cX0_loadHeldWith 7 (some .int) :: kr_all)) := kr_gV kq_346 kq_348 kq_18 kq_25 kq_349
set_option maxHeartbeats 4000000 in
set_option maxRecDepth 100000 in
theorem c_X0_holdsUpTo (l : Launch) (D : va_G) (cy : ClassId) (h : Nat) (a : Nat → Nat) (N L : Nat) (A : Nat → Nat → Int32) (q : Nat) (hw : kr_wf N L A) (hq : q < L) : Met l yX0_holdsUpTo (Cond.code yX0_holdsUpTo cX0_holdsUpTo 2 (some .int) :: kr_all) ({ frames := 4, cells := 0, slots := 0, locals := 99 }) (va_Pc [.ref h, .int (nI q)] (kr_R D (kr_W0 cy h a N L A) cy)) (vp_Si (fun r => r = kr_hu A q)) 0 0 (fun _ => False) := by
  refine kr_of (by decide) (Nat.le_of_ble_eq_true rfl) ?_
  intro p e s m below meth c ls hx hb hml hr hts hown hlocks hin hv hl
  obtain ⟨hP, hK⟩ := hv
  have hown : s.vm.findClass RX0 = some m.cls := hown
  have hl : lv_has ls 2 [(0, .ref h), (1, .int (nI q))] := hl
  have hL := hw.2.1
  obtain ⟨hrc, er⟩ := hw.rc hq
  refine lv_aload_n hx hb dX0_holdsUpTo_0 rfl (lv_at hl 0 rfl) ?_
  refine lv_iload_n hx hb dX0_holdsUpTo_1 rfl (lv_at hl 1 rfl) ?_
  refine kr_vV (n := 1) (As := [.int (nI q)]) (rest := []) ⟨hx, hb, hml, hown, hts⟩ (c_X0_checkLine l D cy h a N L A q (by omega) (by omega)) kg_RX0_82 ⟨rfl, rfl⟩ (by decide +kernel) ⟨Nat.le_of_ble_eq_true rfl, Nat.le_of_ble_eq_true rfl⟩ (kr_pv0 hP hK) rfl hl.1 rfl (Nat.le_of_ble_eq_true rfl) dX0_holdsUpTo_2 ⟨Nat.zero_le _, Nat.zero_le _⟩ ?_
  refine lv_aload_n hx hb dX0_holdsUpTo_5 rfl (lv_at hl 0 rfl) ?_
  refine lv_iload_n hx hb dX0_holdsUpTo_6 rfl (lv_at hl 1 rfl) ?_
  refine lv_iconst (v := -1) hx hb dX0_holdsUpTo_7 (by decide) ?_
  refine lv_iconst (v := -1) hx hb dX0_holdsUpTo_8 (by decide) ?_
  refine kr_vI (n := 3) (As := [.int (nI q), .int (-1), .int (-1)]) (rest := []) ⟨hx, hb, hml, hown, hts⟩ (c_X0_loadHeldWith l D cy h a N L A q (-1) (-1) hw (by omega) (by first | assumption | exact Or.inl rfl)) kg_RX0_143 ⟨rfl, rfl⟩ (by decide +kernel) ⟨Nat.le_of_ble_eq_true rfl, Nat.le_of_ble_eq_true rfl⟩ (kr_pv0 hP hK) rfl hl.1 rfl (Nat.le_of_ble_eq_true rfl) dX0_holdsUpTo_9 ⟨Nat.zero_le _, Nat.zero_le _⟩ (fun r9 e9 => ?_)
  subst e9
  exact kr_eI hx hb hr hlocks rfl (kr_lu_hu q hrc) dX0_holdsUpTo_12
set_option maxHeartbeats 4000000 in
set_option maxRecDepth 100000 in
theorem c_X0_wouldGiveWay (l : Launch) (D : va_G) (cy : ClassId) (h : Nat) (a : Nat → Nat) (N L : Nat) (A : Nat → Nat → Int32) (q : Nat) (ld : Int32) (hw : kr_wf N L A) (hq : q < L) (hld : ¬ ld < 1 ∧ ¬ 999 < ld) : Met l yX0_wouldGiveWay (Cond.code yX0_wouldGiveWay cX0_wouldGiveWay 3 (some .int) :: kr_all) ({ frames := 5, cells := 0, slots := 0, locals := 114 }) (va_Pc [.ref h, .int (nI q), .int ld] (kr_R D (kr_W0 cy h a N L A) cy)) (vp_Si (fun r => r = kr_gw A q ld)) 0 0 (fun _ => False) := by
  refine kr_of (by decide) (Nat.le_of_ble_eq_true rfl) ?_
  intro p e s m below meth c ls hx hb hml hr hts hown hlocks hin hv hl
  obtain ⟨hP, hK⟩ := hv
  have hown : s.vm.findClass RX0 = some m.cls := hown
  have hl : lv_has ls 3 [(0, .ref h), (1, .int (nI q)), (2, .int ld)] := hl
  have hL := hw.2.1
  refine lv_aload_n hx hb dX0_wouldGiveWay_0 rfl (lv_at hl 0 rfl) ?_
  refine lv_iload_n hx hb dX0_wouldGiveWay_1 rfl (lv_at hl 1 rfl) ?_
  refine kr_vV (n := 1) (As := [.int (nI q)]) (rest := []) ⟨hx, hb, hml, hown, hts⟩ (c_X0_checkLine l D cy h a N L A q (by omega) (by omega)) kg_RX0_82 ⟨rfl, rfl⟩ (by decide +kernel) ⟨Nat.le_of_ble_eq_true rfl, Nat.le_of_ble_eq_true rfl⟩ (kr_pv0 hP hK) rfl hl.1 rfl (Nat.le_of_ble_eq_true rfl) dX0_wouldGiveWay_2 ⟨Nat.zero_le _, Nat.zero_le _⟩ ?_
  refine lv_iload_n hx hb dX0_wouldGiveWay_5 rfl (lv_at hl 2 rfl) ?_
  refine kr_sV (n := 1) (As := [.int ld]) (rest := []) ⟨hx, hb, hml, hown, hts⟩ (c_X0_checkLoad l ld (by assumption)) kg_RX0_62 ⟨rfl, rfl⟩ (by decide +kernel) ⟨Nat.le_of_ble_eq_true rfl, Nat.le_of_ble_eq_true rfl⟩ ⟨kr_blT, fun U hU hW => ⟨rfl, trivial⟩⟩ rfl hl.1 rfl (Nat.le_of_ble_eq_true rfl) dX0_wouldGiveWay_6 ⟨Nat.zero_le _, Nat.zero_le _⟩ ?_
  refine lv_aload_n hx hb dX0_wouldGiveWay_9 rfl (lv_at hl 0 rfl) ?_
  refine lv_iload_n hx hb dX0_wouldGiveWay_10 rfl (lv_at hl 1 rfl) ?_
  refine lv_iload_n hx hb dX0_wouldGiveWay_11 rfl (lv_at hl 2 rfl) ?_
  refine kr_vI (n := 2) (As := [.int (nI q), .int ld]) (rest := []) ⟨hx, hb, hml, hown, hts⟩ (c_X0_firstPlaceToGiveWay l D cy h a N L A q ld hw (by omega)) kg_RX0_101 ⟨rfl, rfl⟩ (by decide +kernel) ⟨Nat.le_of_ble_eq_true rfl, Nat.le_of_ble_eq_true rfl⟩ (kr_pv0 hP hK) rfl hl.1 rfl (Nat.le_of_ble_eq_true rfl) dX0_wouldGiveWay_12 ⟨Nat.zero_le _, Nat.zero_le _⟩ (fun r9 e9 => ?_)
  subst e9
  exact kr_eI hx hb hr hlocks rfl rfl dX0_wouldGiveWay_15
theorem kg_RX0_93 : GoodIn kr_all (wsS RX0 93 yX0_kindDueAt (Cond.code yX0_kindDueAt cX0_kindDueAt 1 (some .int) :: kr_all)) := kr_gS kq_164 kq_165 kq_25 kq_166
set_option maxHeartbeats 4000000 in
set_option maxRecDepth 100000 in
theorem c_X0_bestKnot (l : Launch) (D : va_G) (cy : ClassId) (h : Nat) (a : Nat → Nat) (N L : Nat) (A : Nat → Nat → Int32) (q pl : Nat) (hw : kr_wf N L A) (hq : q < L) (hp : pl < kr_rc A q) : Met l yX0_bestKnot (Cond.code yX0_bestKnot cX0_bestKnot 10 (some .int) :: kr_all) ({ frames := 4, cells := 0, slots := 0, locals := 99 }) (va_Pc [.ref h, .int (nI q), .int (nI pl)] (kr_R D (kr_W0 cy h a N L A) cy)) (vp_Si (fun r => r = kr_bk A N q pl)) 0 0 (fun _ => False) := by
  refine kr_of (by decide) (Nat.le_of_ble_eq_true rfl) ?_
  intro p e s m below meth c ls hx hb hml hr hts hown hlocks hin hv hl
  obtain ⟨hP, hK⟩ := hv
  have hown : s.vm.findClass RX0 = some m.cls := hown
  have hl : lv_has ls 10 [(0, .ref h), (1, .int (nI q)), (2, .int (nI pl))] := hl
  have hN := hw.1
  have hL := hw.2.1
  obtain ⟨hrc, er⟩ := hw.rc hq
  refine lv_aload_n hx hb dX0_bestKnot_0 rfl (lv_at hl 0 rfl) ?_
  refine lv_iload_n hx hb dX0_bestKnot_1 rfl (lv_at hl 1 rfl) ?_
  refine lv_iload_n hx hb dX0_bestKnot_2 rfl (lv_at hl 2 rfl) ?_
  refine kr_vV (n := 2) (As := [.int (nI q), .int (nI pl)]) (rest := []) ⟨hx, hb, hml, hown, hts⟩ (c_X0_checkPlace l D cy h a N L A q pl hw (by omega) (by omega)) kg_RX0_90 ⟨rfl, rfl⟩ (by decide +kernel) ⟨Nat.le_of_ble_eq_true rfl, Nat.le_of_ble_eq_true rfl⟩ (kr_pv0 hP hK) rfl hl.1 rfl (Nat.le_of_ble_eq_true rfl) dX0_bestKnot_3 ⟨Nat.zero_le _, Nat.zero_le _⟩ ?_
  refine lv_iload_n hx hb dX0_bestKnot_6 rfl (lv_at hl 2 rfl) ?_
  refine kr_sI (n := 1) (As := [.int (nI pl)]) (rest := []) ⟨hx, hb, hml, hown, hts⟩ (c_X0_kindDueAt l (nI pl)) kg_RX0_93 ⟨rfl, rfl⟩ (by decide +kernel) ⟨Nat.le_of_ble_eq_true rfl, Nat.le_of_ble_eq_true rfl⟩ ⟨kr_blT, fun U hU hW => ⟨rfl, trivial⟩⟩ rfl hl.1 rfl (Nat.le_of_ble_eq_true rfl) dX0_bestKnot_7 ⟨Nat.zero_le _, Nat.zero_le _⟩ (fun r9 e9 => ?_)
  subst e9
  show W _ _ _ _ _ _ _ _ _ _ _ _ _ _ _ (F0 _ _ _ (.int (kr_kd pl) :: _))
  refine lv_topi (fun kd ekd => ?_)
  refine lv_istore_n (lv' := [(3, .int kd), (0, .ref h), (1, .int (nI q)), (2, .int (nI pl))]) hx hb dX0_bestKnot_10 rfl hl (by decide) rfl (fun ls hl => ?_)
  refine lv_aload_n hx hb dX0_bestKnot_11 rfl (lv_at hl 1 rfl) ?_
  refine lv_iload_n hx hb dX0_bestKnot_12 rfl (lv_at hl 0 rfl) ?_
  refine kr_vI (n := 1) (As := [.int kd]) (rest := []) ⟨hx, hb, hml, hown, hts⟩ (c_X0_countOfKind l D cy h a N L A kd (by omega)) kg_RX0_107 ⟨rfl, rfl⟩ (by decide +kernel) ⟨Nat.le_of_ble_eq_true rfl, Nat.le_of_ble_eq_true rfl⟩ (kr_pv0 hP hK) rfl hl.1 rfl (Nat.le_of_ble_eq_true rfl) dX0_bestKnot_13 ⟨Nat.zero_le _, Nat.zero_le _⟩ (fun r9 e9 => ?_)
  subst e9
  refine lv_istore (lv' := [(4, .int (nI (kr_cn A kd N))), (3, .int kd), (0, .ref h), (1, .int (nI q)), (2, .int (nI pl))]) hx hb dX0_bestKnot_16 hl (by decide) rfl (fun ls hl => ?_)
  refine lv_iconst (v := -1) hx hb dX0_bestKnot_18 (by decide) ?_
  refine lv_istore (lv' := [(5, .int (-1)), (4, .int (nI (kr_cn A kd N))), (3, .int kd), (0, .ref h), (1, .int (nI q)), (2, .int (nI pl))]) hx hb dX0_bestKnot_19 hl (by decide) rfl (fun ls hl => ?_)
  refine lv_iconst (v := -1) hx hb dX0_bestKnot_21 (by decide) ?_
  refine lv_istore (lv' := [(6, .int (-1)), (5, .int (-1)), (4, .int (nI (kr_cn A kd N))), (3, .int kd), (0, .ref h), (1, .int (nI q)), (2, .int (nI pl))]) hx hb dX0_bestKnot_22 hl (by decide) rfl (fun ls hl => ?_)
  refine lv_iconst (v := 0) hx hb dX0_bestKnot_24 (by decide) ?_
  refine lv_istore (lv' := [(7, .int 0), (6, .int (-1)), (5, .int (-1)), (4, .int (nI (kr_cn A kd N))), (3, .int kd), (0, .ref h), (1, .int (nI q)), (2, .int (nI pl))]) hx hb dX0_bestKnot_25 hl (by decide) rfl (fun ls hl => ?_)
  have hcn := kr_cn_le (A := A) (kd := kd) N
  refine kr_lp (nL := 10) (fun z : Nat × Int32 × Int32 => [(7, .int (nI z.1)), (6, .int z.2.2), (5, .int z.2.1), (4, .int (nI (kr_cn A kd N))), (3, .int kd), (0, .ref h), (1, .int (nI q)), (2, .int (nI pl))]) (fun z => z.1 ≤ kr_cn A kd N ∧ kr_bs A N q (nI pl) kd (kr_cn A kd N - z.1) z.1 z.2.1 z.2.2 = kr_bk A N q pl) (fun z => kr_cn A kd N - z.1) ?_ (0, -1, -1) ⟨by omega, by rw [ekd]; rfl⟩ (lv_sub hl [0, 1, 2, 3, 4, 5, 6, 7] rfl)
  clear hl
  intro z ls hI hl ih
  obtain ⟨i, b, g⟩ := z
  have hl : lv_has ls 10 [(7, .int (nI i)), (6, .int g), (5, .int b), (4, .int (nI (kr_cn A kd N))), (3, .int kd), (0, .ref h), (1, .int (nI q)), (2, .int (nI pl))] := hl
  obtain ⟨hi0, he⟩ : i ≤ kr_cn A kd N ∧ kr_bs A N q (nI pl) kd (kr_cn A kd N - i) i b g = kr_bk A N q pl := hI
  refine lv_iload hx hb dX0_bestKnot_27 (lv_at hl 0 rfl) ?_
  refine lv_iload hx hb dX0_bestKnot_29 (lv_at hl 3 rfl) ?_
  refine lv_icmp_ge (tgt := 74) hx hb dX0_bestKnot_31 (by decide) (fun c31 => ?_) (fun c31 => ?_)
  · have hi2 : i = kr_cn A kd N := by have := kr_ge (by omega) (by omega) c31; omega
    subst hi2
    refine lv_iload hx hb dX0_bestKnot_74 (lv_at hl 2 rfl) ?_
    exact kr_eI hx hb hr hlocks rfl (by rw [Nat.sub_self] at he; exact he) dX0_bestKnot_76
  · have hi : i < kr_cn A kd N := kr_lt (by omega) (by omega) c31
    rw [kr_bs_s hi] at he
    refine lv_aload_n hx hb dX0_bestKnot_34 rfl (lv_at hl 5 rfl) ?_
    refine lv_iload_n hx hb dX0_bestKnot_35 rfl (lv_at hl 4 rfl) ?_
    refine lv_iload hx hb dX0_bestKnot_36 (lv_at hl 0 rfl) ?_
    refine kr_vI (n := 2) (As := [.int kd, .int (nI i)]) (rest := []) ⟨hx, hb, hml, hown, hts⟩ (c_X0_knotWithRank l D cy h a N L A kd (nI i) (by omega)) kg_RX0_113 ⟨rfl, rfl⟩ (by decide +kernel) ⟨Nat.le_of_ble_eq_true rfl, Nat.le_of_ble_eq_true rfl⟩ (kr_pv0 hP hK) rfl hl.1 rfl (Nat.le_of_ble_eq_true rfl) dX0_bestKnot_38 ⟨Nat.zero_le _, Nat.zero_le _⟩ (fun r9 e9 => ?_)
    subst e9
    have hkk := kr_kw_kn (A := A) (N := N) (kd := kd) (rk := nI i) N 0 (by omega)
    refine lv_istore (lv' := [(8, .int (kr_kw A N kd (nI i) N 0)), (7, .int (nI i)), (6, .int g), (5, .int b), (4, .int (nI (kr_cn A kd N))), (3, .int kd), (0, .ref h), (1, .int (nI q)), (2, .int (nI pl))]) hx hb dX0_bestKnot_41 hl (by decide) rfl (fun ls hl => ?_)
    refine lv_aload_n hx hb dX0_bestKnot_43 rfl (lv_at hl 6 rfl) ?_
    refine lv_iload_n hx hb dX0_bestKnot_44 rfl (lv_at hl 7 rfl) ?_
    refine lv_iload_n hx hb dX0_bestKnot_45 rfl (lv_at hl 8 rfl) ?_
    refine lv_iload hx hb dX0_bestKnot_46 (lv_at hl 0 rfl) ?_
    refine kr_vI (n := 3) (As := [.int (nI q), .int (nI pl), .int (kr_kw A N kd (nI i) N 0)]) (rest := []) ⟨hx, hb, hml, hown, hts⟩ (c_X0_loadHeldWith l D cy h a N L A q (nI pl) (kr_kw A N kd (nI i) N 0) hw (by omega) (by first | assumption | exact Or.inl rfl)) kg_RX0_143 ⟨rfl, rfl⟩ (by decide +kernel) ⟨Nat.le_of_ble_eq_true rfl, Nat.le_of_ble_eq_true rfl⟩ (kr_pv0 hP hK) rfl hl.1 rfl (Nat.le_of_ble_eq_true rfl) dX0_bestKnot_48 ⟨Nat.zero_le _, Nat.zero_le _⟩ (fun r9 e9 => ?_)
    subst e9
    refine lv_istore (lv' := [(9, .int (kr_lu A q (nI pl) (kr_kw A N kd (nI i) N 0))), (8, .int (kr_kw A N kd (nI i) N 0)), (7, .int (nI i)), (6, .int g), (5, .int b), (4, .int (nI (kr_cn A kd N))), (3, .int kd), (0, .ref h), (1, .int (nI q)), (2, .int (nI pl))]) hx hb dX0_bestKnot_51 hl (by decide) rfl (fun ls hl => ?_)
    refine lv_iload hx hb dX0_bestKnot_53 (lv_at hl 0 rfl) ?_
    refine lv_iload hx hb dX0_bestKnot_55 (lv_at hl 3 rfl) ?_
    refine lv_icmp_le (tgt := 68) hx hb dX0_bestKnot_57 (by decide) (fun c57 => ?_) (fun c57 => ?_)
    · rw [if_neg (kr_ngt2 c57)] at he
      refine lv_iinc (v := nI (i + 1)) (lv' := [(7, .int (nI (i + 1))), (9, .int (kr_lu A q (nI pl) (kr_kw A N kd (nI i) N 0))), (8, .int (kr_kw A N kd (nI i) N 0)), (6, .int g), (5, .int b), (4, .int (nI (kr_cn A kd N))), (3, .int kd), (0, .ref h), (1, .int (nI q)), (2, .int (nI pl))]) hx hb dX0_bestKnot_68 hl (k := 2) rfl (kr_inc _) (by decide) rfl (fun ls hl => ?_)
      refine lv_goto (tgt := 27) hx hb dX0_bestKnot_71 (by decide) ?_
      exact ih (i + 1, b, g) ls ⟨by omega, he⟩ (by show kr_cn A kd N - (i + 1) < kr_cn A kd N - i; omega) (lv_sub hl [0, 3, 4, 5, 6, 7, 8, 9] rfl)
    · rw [if_pos (kr_nle2 c57)] at he
      refine lv_iload hx hb dX0_bestKnot_60 (lv_at hl 1 rfl) ?_
      refine lv_istore (lv' := [(5, .int (kr_kw A N kd (nI i) N 0)), (9, .int (kr_lu A q (nI pl) (kr_kw A N kd (nI i) N 0))), (8, .int (kr_kw A N kd (nI i) N 0)), (7, .int (nI i)), (6, .int g), (4, .int (nI (kr_cn A kd N))), (3, .int kd), (0, .ref h), (1, .int (nI q)), (2, .int (nI pl))]) hx hb dX0_bestKnot_62 hl (by decide) rfl (fun ls hl => ?_)
      refine lv_iload hx hb dX0_bestKnot_64 (lv_at hl 1 rfl) ?_
      refine lv_istore (lv' := [(6, .int (kr_lu A q (nI pl) (kr_kw A N kd (nI i) N 0))), (5, .int (kr_kw A N kd (nI i) N 0)), (9, .int (kr_lu A q (nI pl) (kr_kw A N kd (nI i) N 0))), (8, .int (kr_kw A N kd (nI i) N 0)), (7, .int (nI i)), (4, .int (nI (kr_cn A kd N))), (3, .int kd), (0, .ref h), (1, .int (nI q)), (2, .int (nI pl))]) hx hb dX0_bestKnot_66 hl (by decide) rfl (fun ls hl => ?_)
      refine lv_iinc (v := nI (i + 1)) (lv' := [(7, .int (nI (i + 1))), (6, .int (kr_lu A q (nI pl) (kr_kw A N kd (nI i) N 0))), (5, .int (kr_kw A N kd (nI i) N 0)), (9, .int (kr_lu A q (nI pl) (kr_kw A N kd (nI i) N 0))), (8, .int (kr_kw A N kd (nI i) N 0)), (4, .int (nI (kr_cn A kd N))), (3, .int kd), (0, .ref h), (1, .int (nI q)), (2, .int (nI pl))]) hx hb dX0_bestKnot_68 hl (k := 4) rfl (kr_inc _) (by decide) rfl (fun ls hl => ?_)
      refine lv_goto (tgt := 27) hx hb dX0_bestKnot_71 (by decide) ?_
      exact ih (i + 1, kr_kw A N kd (nI i) N 0, kr_lu A q (nI pl) (kr_kw A N kd (nI i) N 0)) ls ⟨by omega, he⟩ (by show kr_cn A kd N - (i + 1) < kr_cn A kd N - i; omega) (lv_sub hl [0, 1, 2, 5, 6, 7, 8, 9] rfl)
theorem kg_RX0_147 : GoodIn kr_all (wsV RX0 147 RX0 yX0_holdsUpTo (Cond.code yX0_holdsUpTo cX0_holdsUpTo 2 (some .int) :: kr_all)) := kr_gV kq_366 kq_343 kq_344 kq_25 kq_345
set_option maxHeartbeats 4000000 in
set_option maxRecDepth 100000 in
theorem c_X0_strongestLine (l : Launch) (D : va_G) (cy : ClassId) (h : Nat) (a : Nat → Nat) (N L : Nat) (A : Nat → Nat → Int32) (hw : kr_wf N L A) : Met l yX0_strongestLine (Cond.code yX0_strongestLine cX0_strongestLine 5 (some .int) :: kr_all) ({ frames := 5, cells := 0, slots := 0, locals := 120 }) (va_Pc [.ref h] (kr_R D (kr_W0 cy h a N L A) cy)) (vp_Si (fun r => r = kr_sg A L 0 (-1))) 0 0 (fun _ => False) := by
  refine kr_of (by decide) (Nat.le_of_ble_eq_true rfl) ?_
  intro p e s m below meth c ls hx hb hml hr hts hown hlocks hin hv hl
  obtain ⟨hP, hK⟩ := hv
  have hown : s.vm.findClass RX0 = some m.cls := hown
  have hl : lv_has ls 5 [(0, .ref h)] := hl
  have hL := hw.2.1
  refine lv_iconst (v := -1) hx hb dX0_strongestLine_0 (by decide) ?_
  refine lv_istore_n (lv' := [(1, .int (-1)), (0, .ref h)]) hx hb dX0_strongestLine_1 rfl hl (by decide) rfl (fun ls hl => ?_)
  refine lv_iconst (v := -1) hx hb dX0_strongestLine_2 (by decide) ?_
  refine lv_istore_n (lv' := [(2, .int (-1)), (1, .int (-1)), (0, .ref h)]) hx hb dX0_strongestLine_3 rfl hl (by decide) rfl (fun ls hl => ?_)
  refine lv_iconst (v := 0) hx hb dX0_strongestLine_4 (by decide) ?_
  refine lv_istore_n (lv' := [(3, .int 0), (2, .int (-1)), (1, .int (-1)), (0, .ref h)]) hx hb dX0_strongestLine_5 rfl hl (by decide) rfl (fun ls hl => ?_)
  refine kr_lp (nL := 5) (fun z : Nat × Int32 × Int32 => [(3, .int (nI z.1)), (2, .int z.2.2), (1, .int z.2.1), (0, .ref h)]) (fun z => z.1 ≤ L ∧ ((z.2.1 = -1 ∧ z.2.2 = -1) ∨ ∃ j, j < L ∧ z.2.1 = nI j ∧ z.2.2 = kr_hu A j) ∧ kr_sg A (L - z.1) z.1 z.2.1 = kr_sg A L 0 (-1)) (fun z => L - z.1) ?_ (0, -1, -1) ⟨by omega, Or.inl ⟨rfl, rfl⟩, rfl⟩ (lv_sub hl [0, 1, 2, 3] rfl)
  clear hl
  intro z ls hI hl ih
  obtain ⟨i, b, g⟩ := z
  have hl : lv_has ls 5 [(3, .int (nI i)), (2, .int g), (1, .int b), (0, .ref h)] := hl
  obtain ⟨hi0, hb2, he⟩ : i ≤ L ∧ ((b = -1 ∧ g = -1) ∨ ∃ j, j < L ∧ b = nI j ∧ g = kr_hu A j) ∧ kr_sg A (L - i) i b = kr_sg A L 0 (-1) := hI
  refine lv_iload_n hx hb dX0_strongestLine_6 rfl (lv_at hl 0 rfl) ?_
  refine lv_aload_n hx hb dX0_strongestLine_7 rfl (lv_at hl 3 rfl) ?_
  refine va_get (ci := 0) (v := .int (nI L)) (C := RX0) (T := TX0) (N := 10) hx hb hts kr_wsX0 hown hK hP 0 rfl rfl 7 (by decide) (hts _ kq_49) (fun _ h9 => h9) rfl dX0_strongestLine_8 ?_
  refine lv_icmp_ge (tgt := 38) hx hb dX0_strongestLine_11 (by decide) (fun c11 => ?_) (fun c11 => ?_)
  · have hi2 : i = L := by have := kr_ge (by omega) (by omega) c11; omega
    subst hi2
    refine lv_iload_n hx hb dX0_strongestLine_38 rfl (lv_at hl 2 rfl) ?_
    exact kr_eI hx hb hr hlocks rfl (by rw [Nat.sub_self] at he; exact he) dX0_strongestLine_39
  · have hi : i < L := kr_lt (by omega) (by omega) c11
    rw [kr_sg_s hi] at he
    refine lv_aload_n hx hb dX0_strongestLine_14 rfl (lv_at hl 3 rfl) ?_
    refine lv_iload_n hx hb dX0_strongestLine_15 rfl (lv_at hl 0 rfl) ?_
    refine kr_vI (n := 1) (As := [.int (nI i)]) (rest := []) ⟨hx, hb, hml, hown, hts⟩ (c_X0_holdsUpTo l D cy h a N L A i hw (by omega)) kg_RX0_147 ⟨rfl, rfl⟩ (by decide +kernel) ⟨Nat.le_of_ble_eq_true rfl, Nat.le_of_ble_eq_true rfl⟩ (kr_pv0 hP hK) rfl hl.1 rfl (Nat.le_of_ble_eq_true rfl) dX0_strongestLine_16 ⟨Nat.zero_le _, Nat.zero_le _⟩ (fun r9 e9 => ?_)
    subst e9
    refine lv_istore (lv' := [(4, .int (kr_hu A i)), (3, .int (nI i)), (2, .int g), (1, .int b), (0, .ref h)]) hx hb dX0_strongestLine_19 hl (by decide) rfl (fun ls hl => ?_)
    refine lv_iload hx hb dX0_strongestLine_21 (lv_at hl 0 rfl) ?_
    refine lv_iload_n hx hb dX0_strongestLine_23 rfl (lv_at hl 2 rfl) ?_
    refine lv_icmp_le (tgt := 32) hx hb dX0_strongestLine_24 (by decide) (fun c24 => ?_) (fun c24 => ?_)
    · have hno : ¬ (b = -1 ∨ kr_hu A (kr_ix b) < kr_hu A i) := by
        rcases hb2 with ⟨rfl, rfl⟩ | ⟨j, hj, rfl, rfl⟩
        · exact absurd c24 (kr_hu_nn i)
        · rw [kr_ix_nI (by omega)]; exact fun z => z.elim (kr_kn_ne (by omega)) (kr_ngt2 c24)
      rw [if_neg hno] at he
      refine lv_iinc (v := nI (i + 1)) (lv' := [(3, .int (nI (i + 1))), (4, .int (kr_hu A i)), (2, .int g), (1, .int b), (0, .ref h)]) hx hb dX0_strongestLine_32 hl (k := 1) rfl (kr_inc _) (by decide) rfl (fun ls hl => ?_)
      refine lv_goto (tgt := 6) hx hb dX0_strongestLine_35 (by decide) ?_
      exact ih (i + 1, b, g) ls ⟨by omega, hb2, he⟩ (by show L - (i + 1) < L - i; omega) (lv_sub hl [0, 2, 3, 4] rfl)
    · have hyes : b = -1 ∨ kr_hu A (kr_ix b) < kr_hu A i := by
        rcases hb2 with ⟨rfl, rfl⟩ | ⟨j, hj, rfl, rfl⟩
        · exact Or.inl rfl
        · rw [kr_ix_nI (by omega)]; exact Or.inr (kr_nle2 c24)
      rw [if_pos hyes] at he
      refine lv_iload_n hx hb dX0_strongestLine_27 rfl (lv_at hl 1 rfl) ?_
      refine lv_istore_n (lv' := [(1, .int (nI i)), (4, .int (kr_hu A i)), (3, .int (nI i)), (2, .int g), (0, .ref h)]) hx hb dX0_strongestLine_28 rfl hl (by decide) rfl (fun ls hl => ?_)
      refine lv_iload hx hb dX0_strongestLine_29 (lv_at hl 1 rfl) ?_
      refine lv_istore_n (lv' := [(2, .int (kr_hu A i)), (1, .int (nI i)), (4, .int (kr_hu A i)), (3, .int (nI i)), (0, .ref h)]) hx hb dX0_strongestLine_31 rfl hl (by decide) rfl (fun ls hl => ?_)
      refine lv_iinc (v := nI (i + 1)) (lv' := [(3, .int (nI (i + 1))), (2, .int (kr_hu A i)), (1, .int (nI i)), (4, .int (kr_hu A i)), (0, .ref h)]) hx hb dX0_strongestLine_32 hl (k := 3) rfl (kr_inc _) (by decide) rfl (fun ls hl => ?_)
      refine lv_goto (tgt := 6) hx hb dX0_strongestLine_35 (by decide) ?_
      exact ih (i + 1, nI i, kr_hu A i) ls ⟨by omega, Or.inr ⟨i, by omega, rfl, rfl⟩, he⟩ (by show L - (i + 1) < L - i; omega) (lv_sub hl [0, 1, 2, 4] rfl)
theorem kg_RX0_166 : GoodIn kr_all (wsV RX0 166 RX0 yX0_kindOf (Cond.code yX0_kindOf cX0_kindOf 2 (some .int) :: kr_all)) := kr_gV kq_381 kq_262 kq_263 kq_25 kq_264
theorem kg_RX0_152 : GoodIn kr_all (wsS RX0 152 yX0_digestWith (Cond.code yX0_digestWith cX0_digestWith 3 (some .long) :: kr_all)) := kr_gS kq_372 kq_373 kq_25 kq_374
theorem kg_RX0_169 : GoodIn kr_all (wsV RX0 169 RX0 yX0_efficiencyOf (Cond.code yX0_efficiencyOf cX0_efficiencyOf 2 (some .int) :: kr_all)) := kr_gV kq_382 kq_266 kq_267 kq_25 kq_268
theorem kg_RX0_172 : GoodIn kr_all (wsV RX0 172 RX0 yX0_crossingsOf (Cond.code yX0_crossingsOf cX0_crossingsOf 2 (some .int) :: kr_all)) := kr_gV kq_383 kq_384 kq_385 kq_25 kq_386
theorem kg_RX0_175 : GoodIn kr_all (wsV RX0 175 RX0 yX0_spillsAt (Cond.code yX0_spillsAt cX0_spillsAt 2 (some .int) :: kr_all)) := kr_gV kq_387 kq_270 kq_271 kq_25 kq_272
theorem kg_RX0_178 : GoodIn kr_all (wsV RX0 178 RX0 yX0_spillsInto (Cond.code yX0_spillsInto cX0_spillsInto 2 (some .int) :: kr_all)) := kr_gV kq_388 kq_274 kq_275 kq_25 kq_276
theorem kg_RX0_181 : GoodIn kr_all (wsV RX0 181 RX0 yX0_rankOf (Cond.code yX0_rankOf cX0_rankOf 2 (some .int) :: kr_all)) := kr_gV kq_389 kq_278 kq_279 kq_25 kq_280
theorem kg_RX0_184 : GoodIn kr_all (wsV RX0 184 RX0 yX0_fallsApartAt (Cond.code yX0_fallsApartAt cX0_fallsApartAt 5 (some .int) :: kr_all)) := kr_gV kq_390 kq_307 kq_308 kq_25 kq_309
set_option maxHeartbeats 4000000 in
set_option maxRecDepth 100000 in
theorem c_X0_digestWithKnot (l : Launch) (D : va_G) (cy : ClassId) (h : Nat) (a : Nat → Nat) (N L : Nat) (A : Nat → Nat → Int32) (d0 : Int64) (k : Nat) (hw : kr_wf N L A) (hk : k < N) : Met l yX0_digestWithKnot (Cond.code yX0_digestWithKnot cX0_digestWithKnot 6 (some .long) :: kr_all) ({ frames := 3, cells := 0, slots := 0, locals := 66 }) (va_Pc [.ref h, .long d0, .int (nI k)] (kr_R D (kr_W0 cy h a N L A) cy)) (vp_Sl (fun r => r = kr_dk A N d0 k)) 0 0 (fun _ => False) := by
  refine kr_of (by decide) (Nat.le_of_ble_eq_true rfl) ?_
  intro p e s m below meth c ls hx hb hml hr hts hown hlocks hin hv hl
  obtain ⟨hP, hK⟩ := hv
  have hown : s.vm.findClass RX0 = some m.cls := hown
  have hl : lv_has ls 6 [(0, .ref h), (1, .long d0), (3, .int (nI k))] := hl
  have hN := hw.1
  refine lv_lload_n hx hb dX0_digestWithKnot_0 rfl (lv_at hl 1 rfl) ?_
  refine lv_lstore (lv' := [(4, .long d0), (0, .ref h), (1, .long d0), (3, .int (nI k))]) hx hb dX0_digestWithKnot_1 hl (by decide) rfl (fun ls hl => ?_)
  refine lv_lload hx hb dX0_digestWithKnot_3 (lv_at hl 0 rfl) ?_
  refine lv_aload_n hx hb dX0_digestWithKnot_5 rfl (lv_at hl 1 rfl) ?_
  refine lv_iload_n hx hb dX0_digestWithKnot_6 rfl (lv_at hl 3 rfl) ?_
  refine kr_vI (n := 1) (As := [.int (nI k)]) (rest := [.long d0]) ⟨hx, hb, hml, hown, hts⟩ (c_X0_kindOf l D cy h a N L A k (by omega) (by omega)) kg_RX0_166 ⟨rfl, rfl⟩ (by decide +kernel) ⟨Nat.le_of_ble_eq_true rfl, Nat.le_of_ble_eq_true rfl⟩ (kr_pv0 hP hK) rfl hl.1 rfl (Nat.le_of_ble_eq_true rfl) dX0_digestWithKnot_7 ⟨Nat.zero_le _, Nat.zero_le _⟩ (fun r9 e9 => ?_)
  subst e9
  refine kr_sL (n := 2) (As := [.long d0, .int (A 0 k)]) (rest := []) ⟨hx, hb, hml, hown, hts⟩ (c_X0_digestWith l d0 (A 0 k)) kg_RX0_152 ⟨rfl, rfl⟩ (by decide +kernel) ⟨Nat.le_of_ble_eq_true rfl, Nat.le_of_ble_eq_true rfl⟩ ⟨kr_blT, fun U hU hW => ⟨rfl, trivial⟩⟩ rfl hl.1 rfl (Nat.le_of_ble_eq_true rfl) dX0_digestWithKnot_10 ⟨Nat.zero_le _, Nat.zero_le _⟩ (fun r9 e9 => ?_)
  subst e9
  refine lv_lstore (lv' := [(4, .long (kr_dw d0 (A 0 k))), (0, .ref h), (1, .long d0), (3, .int (nI k))]) hx hb dX0_digestWithKnot_13 hl (by decide) rfl (fun ls hl => ?_)
  refine lv_lload hx hb dX0_digestWithKnot_15 (lv_at hl 0 rfl) ?_
  refine lv_aload_n hx hb dX0_digestWithKnot_17 rfl (lv_at hl 1 rfl) ?_
  refine lv_iload_n hx hb dX0_digestWithKnot_18 rfl (lv_at hl 3 rfl) ?_
  refine kr_vI (n := 1) (As := [.int (nI k)]) (rest := [.long (kr_dw d0 (A 0 k))]) ⟨hx, hb, hml, hown, hts⟩ (c_X0_efficiencyOf l D cy h a N L A k (by omega) (by omega)) kg_RX0_169 ⟨rfl, rfl⟩ (by decide +kernel) ⟨Nat.le_of_ble_eq_true rfl, Nat.le_of_ble_eq_true rfl⟩ (kr_pv0 hP hK) rfl hl.1 rfl (Nat.le_of_ble_eq_true rfl) dX0_digestWithKnot_19 ⟨Nat.zero_le _, Nat.zero_le _⟩ (fun r9 e9 => ?_)
  subst e9
  refine kr_sL (n := 2) (As := [.long (kr_dw d0 (A 0 k)), .int (A 1 k)]) (rest := []) ⟨hx, hb, hml, hown, hts⟩ (c_X0_digestWith l (kr_dw d0 (A 0 k)) (A 1 k)) kg_RX0_152 ⟨rfl, rfl⟩ (by decide +kernel) ⟨Nat.le_of_ble_eq_true rfl, Nat.le_of_ble_eq_true rfl⟩ ⟨kr_blT, fun U hU hW => ⟨rfl, trivial⟩⟩ rfl hl.1 rfl (Nat.le_of_ble_eq_true rfl) dX0_digestWithKnot_22 ⟨Nat.zero_le _, Nat.zero_le _⟩ (fun r9 e9 => ?_)
  subst e9
  refine lv_lstore (lv' := [(4, .long (kr_dw (kr_dw d0 (A 0 k)) (A 1 k))), (0, .ref h), (1, .long d0), (3, .int (nI k))]) hx hb dX0_digestWithKnot_25 hl (by decide) rfl (fun ls hl => ?_)
  refine lv_lload hx hb dX0_digestWithKnot_27 (lv_at hl 0 rfl) ?_
  refine lv_aload_n hx hb dX0_digestWithKnot_29 rfl (lv_at hl 1 rfl) ?_
  refine lv_iload_n hx hb dX0_digestWithKnot_30 rfl (lv_at hl 3 rfl) ?_
  refine kr_vI (n := 1) (As := [.int (nI k)]) (rest := [.long (kr_dw (kr_dw d0 (A 0 k)) (A 1 k))]) ⟨hx, hb, hml, hown, hts⟩ (c_X0_crossingsOf l D cy h a N L A k (by omega) (by omega)) kg_RX0_172 ⟨rfl, rfl⟩ (by decide +kernel) ⟨Nat.le_of_ble_eq_true rfl, Nat.le_of_ble_eq_true rfl⟩ (kr_pv0 hP hK) rfl hl.1 rfl (Nat.le_of_ble_eq_true rfl) dX0_digestWithKnot_31 ⟨Nat.zero_le _, Nat.zero_le _⟩ (fun r9 e9 => ?_)
  subst e9
  refine kr_sL (n := 2) (As := [.long (kr_dw (kr_dw d0 (A 0 k)) (A 1 k)), .int (A 2 k)]) (rest := []) ⟨hx, hb, hml, hown, hts⟩ (c_X0_digestWith l (kr_dw (kr_dw d0 (A 0 k)) (A 1 k)) (A 2 k)) kg_RX0_152 ⟨rfl, rfl⟩ (by decide +kernel) ⟨Nat.le_of_ble_eq_true rfl, Nat.le_of_ble_eq_true rfl⟩ ⟨kr_blT, fun U hU hW => ⟨rfl, trivial⟩⟩ rfl hl.1 rfl (Nat.le_of_ble_eq_true rfl) dX0_digestWithKnot_34 ⟨Nat.zero_le _, Nat.zero_le _⟩ (fun r9 e9 => ?_)
  subst e9
  refine lv_lstore (lv' := [(4, .long (kr_dw (kr_dw (kr_dw d0 (A 0 k)) (A 1 k)) (A 2 k))), (0, .ref h), (1, .long d0), (3, .int (nI k))]) hx hb dX0_digestWithKnot_37 hl (by decide) rfl (fun ls hl => ?_)
  refine lv_lload hx hb dX0_digestWithKnot_39 (lv_at hl 0 rfl) ?_
  refine lv_aload_n hx hb dX0_digestWithKnot_41 rfl (lv_at hl 1 rfl) ?_
  refine lv_iload_n hx hb dX0_digestWithKnot_42 rfl (lv_at hl 3 rfl) ?_
  refine kr_vI (n := 1) (As := [.int (nI k)]) (rest := [.long (kr_dw (kr_dw (kr_dw d0 (A 0 k)) (A 1 k)) (A 2 k))]) ⟨hx, hb, hml, hown, hts⟩ (c_X0_spillsAt l D cy h a N L A k (by omega) (by omega)) kg_RX0_175 ⟨rfl, rfl⟩ (by decide +kernel) ⟨Nat.le_of_ble_eq_true rfl, Nat.le_of_ble_eq_true rfl⟩ (kr_pv0 hP hK) rfl hl.1 rfl (Nat.le_of_ble_eq_true rfl) dX0_digestWithKnot_43 ⟨Nat.zero_le _, Nat.zero_le _⟩ (fun r9 e9 => ?_)
  subst e9
  refine kr_sL (n := 2) (As := [.long (kr_dw (kr_dw (kr_dw d0 (A 0 k)) (A 1 k)) (A 2 k)), .int (A 3 k)]) (rest := []) ⟨hx, hb, hml, hown, hts⟩ (c_X0_digestWith l (kr_dw (kr_dw (kr_dw d0 (A 0 k)) (A 1 k)) (A 2 k)) (A 3 k)) kg_RX0_152 ⟨rfl, rfl⟩ (by decide +kernel) ⟨Nat.le_of_ble_eq_true rfl, Nat.le_of_ble_eq_true rfl⟩ ⟨kr_blT, fun U hU hW => ⟨rfl, trivial⟩⟩ rfl hl.1 rfl (Nat.le_of_ble_eq_true rfl) dX0_digestWithKnot_46 ⟨Nat.zero_le _, Nat.zero_le _⟩ (fun r9 e9 => ?_)
  subst e9
  refine lv_lstore (lv' := [(4, .long (kr_dw (kr_dw (kr_dw (kr_dw d0 (A 0 k)) (A 1 k)) (A 2 k)) (A 3 k))), (0, .ref h), (1, .long d0), (3, .int (nI k))]) hx hb dX0_digestWithKnot_49 hl (by decide) rfl (fun ls hl => ?_)
  refine lv_lload hx hb dX0_digestWithKnot_51 (lv_at hl 0 rfl) ?_
  refine lv_aload_n hx hb dX0_digestWithKnot_53 rfl (lv_at hl 1 rfl) ?_
  refine lv_iload_n hx hb dX0_digestWithKnot_54 rfl (lv_at hl 3 rfl) ?_
  refine kr_vI (n := 1) (As := [.int (nI k)]) (rest := [.long (kr_dw (kr_dw (kr_dw (kr_dw d0 (A 0 k)) (A 1 k)) (A 2 k)) (A 3 k))]) ⟨hx, hb, hml, hown, hts⟩ (c_X0_spillsInto l D cy h a N L A k (by omega) (by omega)) kg_RX0_178 ⟨rfl, rfl⟩ (by decide +kernel) ⟨Nat.le_of_ble_eq_true rfl, Nat.le_of_ble_eq_true rfl⟩ (kr_pv0 hP hK) rfl hl.1 rfl (Nat.le_of_ble_eq_true rfl) dX0_digestWithKnot_55 ⟨Nat.zero_le _, Nat.zero_le _⟩ (fun r9 e9 => ?_)
  subst e9
  refine kr_sL (n := 2) (As := [.long (kr_dw (kr_dw (kr_dw (kr_dw d0 (A 0 k)) (A 1 k)) (A 2 k)) (A 3 k)), .int (A 4 k)]) (rest := []) ⟨hx, hb, hml, hown, hts⟩ (c_X0_digestWith l (kr_dw (kr_dw (kr_dw (kr_dw d0 (A 0 k)) (A 1 k)) (A 2 k)) (A 3 k)) (A 4 k)) kg_RX0_152 ⟨rfl, rfl⟩ (by decide +kernel) ⟨Nat.le_of_ble_eq_true rfl, Nat.le_of_ble_eq_true rfl⟩ ⟨kr_blT, fun U hU hW => ⟨rfl, trivial⟩⟩ rfl hl.1 rfl (Nat.le_of_ble_eq_true rfl) dX0_digestWithKnot_58 ⟨Nat.zero_le _, Nat.zero_le _⟩ (fun r9 e9 => ?_)
  subst e9
  refine lv_lstore (lv' := [(4, .long (kr_dw (kr_dw (kr_dw (kr_dw (kr_dw d0 (A 0 k)) (A 1 k)) (A 2 k)) (A 3 k)) (A 4 k))), (0, .ref h), (1, .long d0), (3, .int (nI k))]) hx hb dX0_digestWithKnot_61 hl (by decide) rfl (fun ls hl => ?_)
  refine lv_lload hx hb dX0_digestWithKnot_63 (lv_at hl 0 rfl) ?_
  refine lv_aload_n hx hb dX0_digestWithKnot_65 rfl (lv_at hl 1 rfl) ?_
  refine lv_iload_n hx hb dX0_digestWithKnot_66 rfl (lv_at hl 3 rfl) ?_
  refine kr_vI (n := 1) (As := [.int (nI k)]) (rest := [.long (kr_dw (kr_dw (kr_dw (kr_dw (kr_dw d0 (A 0 k)) (A 1 k)) (A 2 k)) (A 3 k)) (A 4 k))]) ⟨hx, hb, hml, hown, hts⟩ (c_X0_rankOf l D cy h a N L A k (by omega) (by omega)) kg_RX0_181 ⟨rfl, rfl⟩ (by decide +kernel) ⟨Nat.le_of_ble_eq_true rfl, Nat.le_of_ble_eq_true rfl⟩ (kr_pv0 hP hK) rfl hl.1 rfl (Nat.le_of_ble_eq_true rfl) dX0_digestWithKnot_67 ⟨Nat.zero_le _, Nat.zero_le _⟩ (fun r9 e9 => ?_)
  subst e9
  refine kr_sL (n := 2) (As := [.long (kr_dw (kr_dw (kr_dw (kr_dw (kr_dw d0 (A 0 k)) (A 1 k)) (A 2 k)) (A 3 k)) (A 4 k)), .int (nI (kr_rk A k N))]) (rest := []) ⟨hx, hb, hml, hown, hts⟩ (c_X0_digestWith l (kr_dw (kr_dw (kr_dw (kr_dw (kr_dw d0 (A 0 k)) (A 1 k)) (A 2 k)) (A 3 k)) (A 4 k)) (nI (kr_rk A k N))) kg_RX0_152 ⟨rfl, rfl⟩ (by decide +kernel) ⟨Nat.le_of_ble_eq_true rfl, Nat.le_of_ble_eq_true rfl⟩ ⟨kr_blT, fun U hU hW => ⟨rfl, trivial⟩⟩ rfl hl.1 rfl (Nat.le_of_ble_eq_true rfl) dX0_digestWithKnot_70 ⟨Nat.zero_le _, Nat.zero_le _⟩ (fun r9 e9 => ?_)
  subst e9
  refine lv_lstore (lv' := [(4, .long (kr_dw (kr_dw (kr_dw (kr_dw (kr_dw (kr_dw d0 (A 0 k)) (A 1 k)) (A 2 k)) (A 3 k)) (A 4 k)) (nI (kr_rk A k N)))), (0, .ref h), (1, .long d0), (3, .int (nI k))]) hx hb dX0_digestWithKnot_73 hl (by decide) rfl (fun ls hl => ?_)
  refine lv_lload hx hb dX0_digestWithKnot_75 (lv_at hl 0 rfl) ?_
  refine lv_aload_n hx hb dX0_digestWithKnot_77 rfl (lv_at hl 1 rfl) ?_
  refine lv_iload_n hx hb dX0_digestWithKnot_78 rfl (lv_at hl 3 rfl) ?_
  refine kr_vI (n := 1) (As := [.int (nI k)]) (rest := [.long (kr_dw (kr_dw (kr_dw (kr_dw (kr_dw (kr_dw d0 (A 0 k)) (A 1 k)) (A 2 k)) (A 3 k)) (A 4 k)) (nI (kr_rk A k N)))]) ⟨hx, hb, hml, hown, hts⟩ (c_X0_fallsApartAt l D cy h a N L A k hw (by omega)) kg_RX0_184 ⟨rfl, rfl⟩ (by decide +kernel) ⟨Nat.le_of_ble_eq_true rfl, Nat.le_of_ble_eq_true rfl⟩ (kr_pv0 hP hK) rfl hl.1 rfl (Nat.le_of_ble_eq_true rfl) dX0_digestWithKnot_79 ⟨Nat.zero_le _, Nat.zero_le _⟩ (fun r9 e9 => ?_)
  subst e9
  refine kr_sL (n := 2) (As := [.long (kr_dw (kr_dw (kr_dw (kr_dw (kr_dw (kr_dw d0 (A 0 k)) (A 1 k)) (A 2 k)) (A 3 k)) (A 4 k)) (nI (kr_rk A k N))), .int (kr_fa A 16 (nI k) 0)]) (rest := []) ⟨hx, hb, hml, hown, hts⟩ (c_X0_digestWith l (kr_dw (kr_dw (kr_dw (kr_dw (kr_dw (kr_dw d0 (A 0 k)) (A 1 k)) (A 2 k)) (A 3 k)) (A 4 k)) (nI (kr_rk A k N))) (kr_fa A 16 (nI k) 0)) kg_RX0_152 ⟨rfl, rfl⟩ (by decide +kernel) ⟨Nat.le_of_ble_eq_true rfl, Nat.le_of_ble_eq_true rfl⟩ ⟨kr_blT, fun U hU hW => ⟨rfl, trivial⟩⟩ rfl hl.1 rfl (Nat.le_of_ble_eq_true rfl) dX0_digestWithKnot_82 ⟨Nat.zero_le _, Nat.zero_le _⟩ (fun r9 e9 => ?_)
  subst e9
  exact kr_eL hx hb hr hlocks rfl rfl dX0_digestWithKnot_85
theorem kg_RX0_187 : GoodIn kr_all (wsV RX0 187 RX0 yX0_ropesOf (Cond.code yX0_ropesOf cX0_ropesOf 2 (some .int) :: kr_all)) := kr_gV kq_395 kq_318 kq_319 kq_25 kq_320
theorem kg_RX0_190 : GoodIn kr_all (wsV RX0 190 RX0 yX0_weakestPlace (Cond.code yX0_weakestPlace cX0_weakestPlace 6 (some .int) :: kr_all)) := kr_gV kq_396 kq_334 kq_335 kq_25 kq_336
theorem kg_RX0_193 : GoodIn kr_all (wsV RX0 193 RX0 yX0_knotOf (Cond.code yX0_knotOf cX0_knotOf 3 (some .int) :: kr_all)) := kr_gV kq_397 kq_322 kq_323 kq_25 kq_324
theorem kg_RX0_196 : GoodIn kr_all (wsV RX0 196 RX0 yX0_strengthAt (Cond.code yX0_strengthAt cX0_strengthAt 3 (some .int) :: kr_all)) := kr_gV kq_398 kq_326 kq_327 kq_25 kq_328
set_option maxHeartbeats 4000000 in
set_option maxRecDepth 100000 in
theorem c_X0_digestWithLine (l : Launch) (D : va_G) (cy : ClassId) (h : Nat) (a : Nat → Nat) (N L : Nat) (A : Nat → Nat → Int32) (d0 : Int64) (q : Nat) (hw : kr_wf N L A) (hq : q < L) : Met l yX0_digestWithLine (Cond.code yX0_digestWithLine cX0_digestWithLine 7 (some .long) :: kr_all) ({ frames := 5, cells := 0, slots := 0, locals := 120 }) (va_Pc [.ref h, .long d0, .int (nI q)] (kr_R D (kr_W0 cy h a N L A) cy)) (vp_Sl (fun r => r = kr_dl A d0 q)) 0 0 (fun _ => False) := by
  refine kr_of (by decide) (Nat.le_of_ble_eq_true rfl) ?_
  intro p e s m below meth c ls hx hb hml hr hts hown hlocks hin hv hl
  obtain ⟨hP, hK⟩ := hv
  have hown : s.vm.findClass RX0 = some m.cls := hown
  have hl : lv_has ls 7 [(0, .ref h), (1, .long d0), (3, .int (nI q))] := hl
  have hL := hw.2.1
  obtain ⟨hrc, er⟩ := hw.rc hq
  refine lv_lload_n hx hb dX0_digestWithLine_0 rfl (lv_at hl 1 rfl) ?_
  refine lv_lstore (lv' := [(4, .long d0), (0, .ref h), (1, .long d0), (3, .int (nI q))]) hx hb dX0_digestWithLine_1 hl (by decide) rfl (fun ls hl => ?_)
  refine lv_lload hx hb dX0_digestWithLine_3 (lv_at hl 0 rfl) ?_
  refine lv_aload_n hx hb dX0_digestWithLine_5 rfl (lv_at hl 1 rfl) ?_
  refine lv_iload_n hx hb dX0_digestWithLine_6 rfl (lv_at hl 3 rfl) ?_
  refine kr_vI (n := 1) (As := [.int (nI q)]) (rest := [.long d0]) ⟨hx, hb, hml, hown, hts⟩ (c_X0_ropesOf l D cy h a N L A q hw (by omega)) kg_RX0_187 ⟨rfl, rfl⟩ (by decide +kernel) ⟨Nat.le_of_ble_eq_true rfl, Nat.le_of_ble_eq_true rfl⟩ (kr_pv0 hP hK) rfl hl.1 rfl (Nat.le_of_ble_eq_true rfl) dX0_digestWithLine_7 ⟨Nat.zero_le _, Nat.zero_le _⟩ (fun r9 e9 => ?_)
  subst e9
  refine kr_sL (n := 2) (As := [.long d0, .int (A 5 q)]) (rest := []) ⟨hx, hb, hml, hown, hts⟩ (c_X0_digestWith l d0 (A 5 q)) kg_RX0_152 ⟨rfl, rfl⟩ (by decide +kernel) ⟨Nat.le_of_ble_eq_true rfl, Nat.le_of_ble_eq_true rfl⟩ ⟨kr_blT, fun U hU hW => ⟨rfl, trivial⟩⟩ rfl hl.1 rfl (Nat.le_of_ble_eq_true rfl) dX0_digestWithLine_10 ⟨Nat.zero_le _, Nat.zero_le _⟩ (fun r9 e9 => ?_)
  subst e9
  refine lv_lstore (lv' := [(4, .long (kr_dw d0 (A 5 q))), (0, .ref h), (1, .long d0), (3, .int (nI q))]) hx hb dX0_digestWithLine_13 hl (by decide) rfl (fun ls hl => ?_)
  refine lv_lload hx hb dX0_digestWithLine_15 (lv_at hl 0 rfl) ?_
  refine lv_aload_n hx hb dX0_digestWithLine_17 rfl (lv_at hl 1 rfl) ?_
  refine lv_iload_n hx hb dX0_digestWithLine_18 rfl (lv_at hl 3 rfl) ?_
  refine kr_vI (n := 1) (As := [.int (nI q)]) (rest := [.long (kr_dw d0 (A 5 q))]) ⟨hx, hb, hml, hown, hts⟩ (c_X0_holdsUpTo l D cy h a N L A q hw (by omega)) kg_RX0_147 ⟨rfl, rfl⟩ (by decide +kernel) ⟨Nat.le_of_ble_eq_true rfl, Nat.le_of_ble_eq_true rfl⟩ (kr_pv0 hP hK) rfl hl.1 rfl (Nat.le_of_ble_eq_true rfl) dX0_digestWithLine_19 ⟨Nat.zero_le _, Nat.zero_le _⟩ (fun r9 e9 => ?_)
  subst e9
  refine kr_sL (n := 2) (As := [.long (kr_dw d0 (A 5 q)), .int (kr_hu A q)]) (rest := []) ⟨hx, hb, hml, hown, hts⟩ (c_X0_digestWith l (kr_dw d0 (A 5 q)) (kr_hu A q)) kg_RX0_152 ⟨rfl, rfl⟩ (by decide +kernel) ⟨Nat.le_of_ble_eq_true rfl, Nat.le_of_ble_eq_true rfl⟩ ⟨kr_blT, fun U hU hW => ⟨rfl, trivial⟩⟩ rfl hl.1 rfl (Nat.le_of_ble_eq_true rfl) dX0_digestWithLine_22 ⟨Nat.zero_le _, Nat.zero_le _⟩ (fun r9 e9 => ?_)
  subst e9
  refine lv_lstore (lv' := [(4, .long (kr_dw (kr_dw d0 (A 5 q)) (kr_hu A q))), (0, .ref h), (1, .long d0), (3, .int (nI q))]) hx hb dX0_digestWithLine_25 hl (by decide) rfl (fun ls hl => ?_)
  refine lv_lload hx hb dX0_digestWithLine_27 (lv_at hl 0 rfl) ?_
  refine lv_aload_n hx hb dX0_digestWithLine_29 rfl (lv_at hl 1 rfl) ?_
  refine lv_iload_n hx hb dX0_digestWithLine_30 rfl (lv_at hl 3 rfl) ?_
  refine kr_vI (n := 1) (As := [.int (nI q)]) (rest := [.long (kr_dw (kr_dw d0 (A 5 q)) (kr_hu A q))]) ⟨hx, hb, hml, hown, hts⟩ (c_X0_weakestPlace l D cy h a N L A q hw (by omega)) kg_RX0_190 ⟨rfl, rfl⟩ (by decide +kernel) ⟨Nat.le_of_ble_eq_true rfl, Nat.le_of_ble_eq_true rfl⟩ (kr_pv0 hP hK) rfl hl.1 rfl (Nat.le_of_ble_eq_true rfl) dX0_digestWithLine_31 ⟨Nat.zero_le _, Nat.zero_le _⟩ (fun r9 e9 => ?_)
  subst e9
  refine kr_sL (n := 2) (As := [.long (kr_dw (kr_dw d0 (A 5 q)) (kr_hu A q)), .int (kr_wk A q (kr_rc A q) 0 (-1))]) (rest := []) ⟨hx, hb, hml, hown, hts⟩ (c_X0_digestWith l (kr_dw (kr_dw d0 (A 5 q)) (kr_hu A q)) (kr_wk A q (kr_rc A q) 0 (-1))) kg_RX0_152 ⟨rfl, rfl⟩ (by decide +kernel) ⟨Nat.le_of_ble_eq_true rfl, Nat.le_of_ble_eq_true rfl⟩ ⟨kr_blT, fun U hU hW => ⟨rfl, trivial⟩⟩ rfl hl.1 rfl (Nat.le_of_ble_eq_true rfl) dX0_digestWithLine_34 ⟨Nat.zero_le _, Nat.zero_le _⟩ (fun r9 e9 => ?_)
  subst e9
  refine lv_lstore (lv' := [(4, .long (kr_dw (kr_dw (kr_dw d0 (A 5 q)) (kr_hu A q)) (kr_wk A q (kr_rc A q) 0 (-1)))), (0, .ref h), (1, .long d0), (3, .int (nI q))]) hx hb dX0_digestWithLine_37 hl (by decide) rfl (fun ls hl => ?_)
  refine lv_iconst (v := 0) hx hb dX0_digestWithLine_39 (by decide) ?_
  refine lv_istore (lv' := [(6, .int 0), (4, .long (kr_dw (kr_dw (kr_dw d0 (A 5 q)) (kr_hu A q)) (kr_wk A q (kr_rc A q) 0 (-1)))), (0, .ref h), (1, .long d0), (3, .int (nI q))]) hx hb dX0_digestWithLine_40 hl (by decide) rfl (fun ls hl => ?_)
  refine kr_lp (nL := 7) (fun z : Nat × Int64 => [(6, .int (nI z.1)), (4, .long z.2), (0, .ref h), (1, .long d0), (3, .int (nI q))]) (fun z => z.1 ≤ kr_rc A q ∧ kr_dp A q (kr_rc A q - z.1) z.1 z.2 = kr_dl A d0 q) (fun z => kr_rc A q - z.1) ?_ (0, kr_dw (kr_dw (kr_dw d0 (A 5 q)) (kr_hu A q)) (kr_wk A q (kr_rc A q) 0 (-1))) ⟨by omega, rfl⟩ (lv_sub hl [0, 1, 2, 3, 4] rfl)
  clear hl
  intro z ls hI hl ih
  obtain ⟨i, d⟩ := z
  have hl : lv_has ls 7 [(6, .int (nI i)), (4, .long d), (0, .ref h), (1, .long d0), (3, .int (nI q))] := hl
  obtain ⟨hi0, he⟩ : i ≤ kr_rc A q ∧ kr_dp A q (kr_rc A q - i) i d = kr_dl A d0 q := hI
  refine lv_iload hx hb dX0_digestWithLine_42 (lv_at hl 0 rfl) ?_
  refine lv_aload_n hx hb dX0_digestWithLine_44 rfl (lv_at hl 2 rfl) ?_
  refine va_get (ci := 0) (v := .ref (a 5)) (C := RX0) (T := TX0) (N := 10) hx hb hts kr_wsX0 hown hK hP 0 rfl rfl 6 (by decide) (hts _ kq_48) (fun _ h9 => h9) rfl dX0_digestWithLine_45 ?_
  refine lv_iload_n hx hb dX0_digestWithLine_48 rfl (lv_at hl 4 rfl) ?_
  refine kr_ald hx hb hK hP 6 0 rfl rfl q (by omega) (by decide) dX0_digestWithLine_49 ?_
  rw [er]
  refine lv_icmp_ge (tgt := 87) hx hb dX0_digestWithLine_50 (by decide) (fun c50 => ?_) (fun c50 => ?_)
  · have hi2 : i = kr_rc A q := by have := kr_ge (by omega) (by omega) c50; omega
    subst hi2
    refine lv_lload hx hb dX0_digestWithLine_87 (lv_at hl 1 rfl) ?_
    exact kr_eL hx hb hr hlocks rfl (by rw [Nat.sub_self] at he; exact he) dX0_digestWithLine_89
  · have hi : i < kr_rc A q := kr_lt (by omega) (by omega) c50
    rw [kr_dp_s hi] at he
    refine lv_lload hx hb dX0_digestWithLine_53 (lv_at hl 1 rfl) ?_
    refine lv_aload_n hx hb dX0_digestWithLine_55 rfl (lv_at hl 2 rfl) ?_
    refine lv_iload_n hx hb dX0_digestWithLine_56 rfl (lv_at hl 4 rfl) ?_
    refine lv_iload hx hb dX0_digestWithLine_57 (lv_at hl 0 rfl) ?_
    refine kr_vI (n := 2) (As := [.int (nI q), .int (nI i)]) (rest := [.long d]) ⟨hx, hb, hml, hown, hts⟩ (c_X0_knotOf l D cy h a N L A q i hw (by omega) (by omega)) kg_RX0_193 ⟨rfl, rfl⟩ (by decide +kernel) ⟨Nat.le_of_ble_eq_true rfl, Nat.le_of_ble_eq_true rfl⟩ (kr_pv0 hP hK) rfl hl.1 rfl (Nat.le_of_ble_eq_true rfl) dX0_digestWithLine_59 ⟨Nat.zero_le _, Nat.zero_le _⟩ (fun r9 e9 => ?_)
    subst e9
    refine kr_sL (n := 2) (As := [.long d, .int (A 6 (5 * q + i))]) (rest := []) ⟨hx, hb, hml, hown, hts⟩ (c_X0_digestWith l d (A 6 (5 * q + i))) kg_RX0_152 ⟨rfl, rfl⟩ (by decide +kernel) ⟨Nat.le_of_ble_eq_true rfl, Nat.le_of_ble_eq_true rfl⟩ ⟨kr_blT, fun U hU hW => ⟨rfl, trivial⟩⟩ rfl hl.1 rfl (Nat.le_of_ble_eq_true rfl) dX0_digestWithLine_62 ⟨Nat.zero_le _, Nat.zero_le _⟩ (fun r9 e9 => ?_)
    subst e9
    refine lv_lstore (lv' := [(4, .long (kr_dw d (A 6 (5 * q + i)))), (6, .int (nI i)), (0, .ref h), (1, .long d0), (3, .int (nI q))]) hx hb dX0_digestWithLine_65 hl (by decide) rfl (fun ls hl => ?_)
    refine lv_lload hx hb dX0_digestWithLine_67 (lv_at hl 0 rfl) ?_
    refine lv_aload_n hx hb dX0_digestWithLine_69 rfl (lv_at hl 2 rfl) ?_
    refine lv_iload_n hx hb dX0_digestWithLine_70 rfl (lv_at hl 4 rfl) ?_
    refine lv_iload hx hb dX0_digestWithLine_71 (lv_at hl 1 rfl) ?_
    refine kr_vI (n := 2) (As := [.int (nI q), .int (nI i)]) (rest := [.long (kr_dw d (A 6 (5 * q + i)))]) ⟨hx, hb, hml, hown, hts⟩ (c_X0_strengthAt l D cy h a N L A q i hw (by omega) (by omega)) kg_RX0_196 ⟨rfl, rfl⟩ (by decide +kernel) ⟨Nat.le_of_ble_eq_true rfl, Nat.le_of_ble_eq_true rfl⟩ (kr_pv0 hP hK) rfl hl.1 rfl (Nat.le_of_ble_eq_true rfl) dX0_digestWithLine_73 ⟨Nat.zero_le _, Nat.zero_le _⟩ (fun r9 e9 => ?_)
    subst e9
    refine kr_sL (n := 2) (As := [.long (kr_dw d (A 6 (5 * q + i))), .int (kr_nw A q i)]) (rest := []) ⟨hx, hb, hml, hown, hts⟩ (c_X0_digestWith l (kr_dw d (A 6 (5 * q + i))) (kr_nw A q i)) kg_RX0_152 ⟨rfl, rfl⟩ (by decide +kernel) ⟨Nat.le_of_ble_eq_true rfl, Nat.le_of_ble_eq_true rfl⟩ ⟨kr_blT, fun U hU hW => ⟨rfl, trivial⟩⟩ rfl hl.1 rfl (Nat.le_of_ble_eq_true rfl) dX0_digestWithLine_76 ⟨Nat.zero_le _, Nat.zero_le _⟩ (fun r9 e9 => ?_)
    subst e9
    refine lv_lstore (lv' := [(4, .long (kr_dw (kr_dw d (A 6 (5 * q + i))) (kr_nw A q i))), (6, .int (nI i)), (0, .ref h), (1, .long d0), (3, .int (nI q))]) hx hb dX0_digestWithLine_79 hl (by decide) rfl (fun ls hl => ?_)
    refine lv_iinc (v := nI (i + 1)) (lv' := [(6, .int (nI (i + 1))), (4, .long (kr_dw (kr_dw d (A 6 (5 * q + i))) (kr_nw A q i))), (0, .ref h), (1, .long d0), (3, .int (nI q))]) hx hb dX0_digestWithLine_81 hl (k := 1) rfl (kr_inc _) (by decide) rfl (fun ls hl => ?_)
    refine lv_goto (tgt := 42) hx hb dX0_digestWithLine_84 (by decide) ?_
    exact ih (i + 1, kr_dw (kr_dw d (A 6 (5 * q + i))) (kr_nw A q i)) ls ⟨by omega, he⟩ (by show kr_rc A q - (i + 1) < kr_rc A q - i; omega) (lv_sub hl [0, 1, 2, 3, 4] rfl)
theorem kg_RX0_156 : GoodIn kr_all (wsV RX0 156 RX0 yX0_strongestLine (Cond.code yX0_strongestLine cX0_strongestLine 5 (some .int) :: kr_all)) := kr_gV kq_376 kq_363 kq_364 kq_25 kq_365
theorem kg_RX0_163 : GoodIn kr_all (wsV RX0 163 RX0 yX0_digestWithLine (Cond.code yX0_digestWithLine cX0_digestWithLine 7 (some .long) :: kr_all)) := kr_gV kq_391 kq_393 kq_21 kq_25 kq_394
theorem kg_RX0_160 : GoodIn kr_all (wsV RX0 160 RX0 yX0_digestWithKnot (Cond.code yX0_digestWithKnot cX0_digestWithKnot 6 (some .long) :: kr_all)) := kr_gV kq_377 kq_379 kq_20 kq_25 kq_380
set_option maxHeartbeats 4000000 in
set_option maxRecDepth 100000 in
theorem c_X0_digest (l : Launch) (D : va_G) (cy : ClassId) (h : Nat) (a : Nat → Nat) (N L : Nat) (A : Nat → Nat → Int32) (hw : kr_wf N L A) : Met l yX0_digest (Cond.code yX0_digest cX0_digest 4 (some .long) :: kr_all) ({ frames := 6, cells := 0, slots := 0, locals := 146 }) (va_Pc [.ref h] (kr_R D (kr_W0 cy h a N L A) cy)) (vp_Sl (fun r => r = kr_dg N L A)) 0 0 (fun _ => False) := by
  refine kr_of (by decide) (Nat.le_of_ble_eq_true rfl) ?_
  intro p e s m below meth c ls hx hb hml hr hts hown hlocks hin hv hl
  obtain ⟨hP, hK⟩ := hv
  have hown : s.vm.findClass RX0 = some m.cls := hown
  have hl : lv_has ls 4 [(0, .ref h)] := hl
  have hN := hw.1
  have hL := hw.2.1
  refine lv_ldc2 (v := 2063) hx hb hown (hts _ kq_371) dX0_digest_0 ?_
  refine lv_lstore_n (lv' := [(1, .long 2063), (0, .ref h)]) hx hb dX0_digest_3 rfl hl (by decide) rfl (fun ls hl => ?_)
  refine lv_lload_n hx hb dX0_digest_4 rfl (lv_at hl 0 rfl) ?_
  refine lv_aload_n hx hb dX0_digest_5 rfl (lv_at hl 1 rfl) ?_
  refine va_get (ci := 0) (v := .int (nI N)) (C := RX0) (T := TX0) (N := 10) hx hb hts kr_wsX0 hown hK hP 0 rfl rfl 5 (by decide) (hts _ kq_47) (fun _ h9 => h9) rfl dX0_digest_6 ?_
  refine kr_sL (n := 2) (As := [.long 2063, .int (nI N)]) (rest := []) ⟨hx, hb, hml, hown, hts⟩ (c_X0_digestWith l 2063 (nI N)) kg_RX0_152 ⟨rfl, rfl⟩ (by decide +kernel) ⟨Nat.le_of_ble_eq_true rfl, Nat.le_of_ble_eq_true rfl⟩ ⟨kr_blT, fun U hU hW => ⟨rfl, trivial⟩⟩ rfl hl.1 rfl (Nat.le_of_ble_eq_true rfl) dX0_digest_9 ⟨Nat.zero_le _, Nat.zero_le _⟩ (fun r9 e9 => ?_)
  subst e9
  refine lv_lstore_n (lv' := [(1, .long (kr_dw 2063 (nI N))), (0, .ref h)]) hx hb dX0_digest_12 rfl hl (by decide) rfl (fun ls hl => ?_)
  refine lv_lload_n hx hb dX0_digest_13 rfl (lv_at hl 0 rfl) ?_
  refine lv_aload_n hx hb dX0_digest_14 rfl (lv_at hl 1 rfl) ?_
  refine va_get (ci := 0) (v := .int (nI L)) (C := RX0) (T := TX0) (N := 10) hx hb hts kr_wsX0 hown hK hP 0 rfl rfl 7 (by decide) (hts _ kq_49) (fun _ h9 => h9) rfl dX0_digest_15 ?_
  refine kr_sL (n := 2) (As := [.long (kr_dw 2063 (nI N)), .int (nI L)]) (rest := []) ⟨hx, hb, hml, hown, hts⟩ (c_X0_digestWith l (kr_dw 2063 (nI N)) (nI L)) kg_RX0_152 ⟨rfl, rfl⟩ (by decide +kernel) ⟨Nat.le_of_ble_eq_true rfl, Nat.le_of_ble_eq_true rfl⟩ ⟨kr_blT, fun U hU hW => ⟨rfl, trivial⟩⟩ rfl hl.1 rfl (Nat.le_of_ble_eq_true rfl) dX0_digest_18 ⟨Nat.zero_le _, Nat.zero_le _⟩ (fun r9 e9 => ?_)
  subst e9
  refine lv_lstore_n (lv' := [(1, .long (kr_dw (kr_dw 2063 (nI N)) (nI L))), (0, .ref h)]) hx hb dX0_digest_21 rfl hl (by decide) rfl (fun ls hl => ?_)
  refine lv_lload_n hx hb dX0_digest_22 rfl (lv_at hl 0 rfl) ?_
  refine lv_aload_n hx hb dX0_digest_23 rfl (lv_at hl 1 rfl) ?_
  refine kr_vI (n := 0) (As := []) (rest := [.long (kr_dw (kr_dw 2063 (nI N)) (nI L))]) ⟨hx, hb, hml, hown, hts⟩ (c_X0_strongestLine l D cy h a N L A hw) kg_RX0_156 ⟨rfl, rfl⟩ (by decide +kernel) ⟨Nat.le_of_ble_eq_true rfl, Nat.le_of_ble_eq_true rfl⟩ (kr_pv0 hP hK) rfl hl.1 rfl (Nat.le_of_ble_eq_true rfl) dX0_digest_24 ⟨Nat.zero_le _, Nat.zero_le _⟩ (fun r9 e9 => ?_)
  subst e9
  refine kr_sL (n := 2) (As := [.long (kr_dw (kr_dw 2063 (nI N)) (nI L)), .int (kr_sg A L 0 (-1))]) (rest := []) ⟨hx, hb, hml, hown, hts⟩ (c_X0_digestWith l (kr_dw (kr_dw 2063 (nI N)) (nI L)) (kr_sg A L 0 (-1))) kg_RX0_152 ⟨rfl, rfl⟩ (by decide +kernel) ⟨Nat.le_of_ble_eq_true rfl, Nat.le_of_ble_eq_true rfl⟩ ⟨kr_blT, fun U hU hW => ⟨rfl, trivial⟩⟩ rfl hl.1 rfl (Nat.le_of_ble_eq_true rfl) dX0_digest_27 ⟨Nat.zero_le _, Nat.zero_le _⟩ (fun r9 e9 => ?_)
  subst e9
  refine lv_lstore_n (lv' := [(1, .long (kr_dw (kr_dw (kr_dw 2063 (nI N)) (nI L)) (kr_sg A L 0 (-1)))), (0, .ref h)]) hx hb dX0_digest_30 rfl hl (by decide) rfl (fun ls hl => ?_)
  refine lv_iconst (v := 0) hx hb dX0_digest_31 (by decide) ?_
  refine lv_istore_n (lv' := [(3, .int 0), (1, .long (kr_dw (kr_dw (kr_dw 2063 (nI N)) (nI L)) (kr_sg A L 0 (-1)))), (0, .ref h)]) hx hb dX0_digest_32 rfl hl (by decide) rfl (fun ls hl => ?_)
  refine kr_lp (nL := 4) (fun z : Nat × Int64 => [(3, .int (nI z.1)), (1, .long z.2), (0, .ref h)]) (fun z => z.1 ≤ N ∧ kr_dks A N (N - z.1) z.1 z.2 = kr_dks A N N 0 (kr_dw (kr_dw (kr_dw 2063 (nI N)) (nI L)) (kr_sg A L 0 (-1)))) (fun z => N - z.1) ?_ (0, kr_dw (kr_dw (kr_dw 2063 (nI N)) (nI L)) (kr_sg A L 0 (-1))) ⟨by omega, rfl⟩ (lv_sub hl [0, 1, 2] rfl)
  clear hl
  intro z ls hI hl ih
  obtain ⟨i, d⟩ := z
  have hl : lv_has ls 4 [(3, .int (nI i)), (1, .long d), (0, .ref h)] := hl
  obtain ⟨hi0, he⟩ : i ≤ N ∧ kr_dks A N (N - i) i d = kr_dks A N N 0 (kr_dw (kr_dw (kr_dw 2063 (nI N)) (nI L)) (kr_sg A L 0 (-1))) := hI
  refine lv_iload_n hx hb dX0_digest_33 rfl (lv_at hl 0 rfl) ?_
  refine lv_aload_n hx hb dX0_digest_34 rfl (lv_at hl 2 rfl) ?_
  refine va_get (ci := 0) (v := .int (nI N)) (C := RX0) (T := TX0) (N := 10) hx hb hts kr_wsX0 hown hK hP 0 rfl rfl 5 (by decide) (hts _ kq_47) (fun _ h9 => h9) rfl dX0_digest_35 ?_
  refine lv_icmp_ge (tgt := 54) hx hb dX0_digest_38 (by decide) (fun c38 => ?_) (fun c38 => ?_)
  · have hi2 : i = N := by have := kr_ge (by omega) (by omega) c38; omega
    rw [hi2, Nat.sub_self] at he
    have he : d = kr_dks A N N 0 (kr_dw (kr_dw (kr_dw 2063 (nI N)) (nI L)) (kr_sg A L 0 (-1))) := he
    refine lv_iconst (v := 0) hx hb dX0_digest_54 (by decide) ?_
    refine lv_istore_n (lv' := [(3, .int 0), (1, .long d), (0, .ref h)]) hx hb dX0_digest_55 rfl hl (by decide) rfl (fun ls hl => ?_)
    refine kr_lp (nL := 4) (fun z : Nat × Int64 => [(3, .int (nI z.1)), (1, .long z.2), (0, .ref h)]) (fun z => z.1 ≤ L ∧ kr_dls A (L - z.1) z.1 z.2 = kr_dls A L 0 d) (fun z => L - z.1) ?_ (0, d) ⟨by omega, rfl⟩ (lv_sub hl [0, 1, 2] rfl)
    clear hl
    intro z ls hI hl ih
    obtain ⟨j, d2⟩ := z
    have hl : lv_has ls 4 [(3, .int (nI j)), (1, .long d2), (0, .ref h)] := hl
    obtain ⟨hj0, hf⟩ : j ≤ L ∧ kr_dls A (L - j) j d2 = kr_dls A L 0 d := hI
    refine lv_iload_n hx hb dX0_digest_56 rfl (lv_at hl 0 rfl) ?_
    refine lv_aload_n hx hb dX0_digest_57 rfl (lv_at hl 2 rfl) ?_
    refine va_get (ci := 0) (v := .int (nI L)) (C := RX0) (T := TX0) (N := 10) hx hb hts kr_wsX0 hown hK hP 0 rfl rfl 7 (by decide) (hts _ kq_49) (fun _ h9 => h9) rfl dX0_digest_58 ?_
    refine lv_icmp_ge (tgt := 77) hx hb dX0_digest_61 (by decide) (fun c61 => ?_) (fun c61 => ?_)
    · have hj2 : j = L := by have := kr_ge (by omega) (by omega) c61; omega
      rw [hj2, Nat.sub_self, he] at hf
      refine lv_lload_n hx hb dX0_digest_77 rfl (lv_at hl 1 rfl) ?_
      exact kr_eL hx hb hr hlocks rfl hf dX0_digest_78
    · have hj : j < L := kr_lt (by omega) (by omega) c61
      rw [kr_dls_s hj] at hf
      refine lv_aload_n hx hb dX0_digest_64 rfl (lv_at hl 2 rfl) ?_
      refine lv_lload_n hx hb dX0_digest_65 rfl (lv_at hl 1 rfl) ?_
      refine lv_iload_n hx hb dX0_digest_66 rfl (lv_at hl 0 rfl) ?_
      refine kr_vL (n := 2) (As := [.long d2, .int (nI j)]) (rest := []) ⟨hx, hb, hml, hown, hts⟩ (c_X0_digestWithLine l D cy h a N L A d2 j hw (by omega)) kg_RX0_163 ⟨rfl, rfl⟩ (by decide +kernel) ⟨Nat.le_of_ble_eq_true rfl, Nat.le_of_ble_eq_true rfl⟩ (kr_pv0 hP hK) rfl hl.1 rfl (Nat.le_of_ble_eq_true rfl) dX0_digest_67 ⟨Nat.zero_le _, Nat.zero_le _⟩ (fun r9 e9 => ?_)
      subst e9
      refine lv_lstore_n (lv' := [(1, .long (kr_dl A d2 j)), (3, .int (nI j)), (0, .ref h)]) hx hb dX0_digest_70 rfl hl (by decide) rfl (fun ls hl => ?_)
      refine lv_iinc (v := nI (j + 1)) (lv' := [(3, .int (nI (j + 1))), (1, .long (kr_dl A d2 j)), (0, .ref h)]) hx hb dX0_digest_71 hl (k := 1) rfl (kr_inc _) (by decide) rfl (fun ls hl => ?_)
      refine lv_goto (tgt := 56) hx hb dX0_digest_74 (by decide) ?_
      exact ih (j + 1, kr_dl A d2 j) ls ⟨by omega, hf⟩ (by show L - (j + 1) < L - j; omega) (lv_sub hl [0, 1, 2] rfl)
  · have hi : i < N := kr_lt (by omega) (by omega) c38
    rw [kr_dks_s hi] at he
    refine lv_aload_n hx hb dX0_digest_41 rfl (lv_at hl 2 rfl) ?_
    refine lv_lload_n hx hb dX0_digest_42 rfl (lv_at hl 1 rfl) ?_
    refine lv_iload_n hx hb dX0_digest_43 rfl (lv_at hl 0 rfl) ?_
    refine kr_vL (n := 2) (As := [.long d, .int (nI i)]) (rest := []) ⟨hx, hb, hml, hown, hts⟩ (c_X0_digestWithKnot l D cy h a N L A d i hw (by omega)) kg_RX0_160 ⟨rfl, rfl⟩ (by decide +kernel) ⟨Nat.le_of_ble_eq_true rfl, Nat.le_of_ble_eq_true rfl⟩ (kr_pv0 hP hK) rfl hl.1 rfl (Nat.le_of_ble_eq_true rfl) dX0_digest_44 ⟨Nat.zero_le _, Nat.zero_le _⟩ (fun r9 e9 => ?_)
    subst e9
    refine lv_lstore_n (lv' := [(1, .long (kr_dk A N d i)), (3, .int (nI i)), (0, .ref h)]) hx hb dX0_digest_47 rfl hl (by decide) rfl (fun ls hl => ?_)
    refine lv_iinc (v := nI (i + 1)) (lv' := [(3, .int (nI (i + 1))), (1, .long (kr_dk A N d i)), (0, .ref h)]) hx hb dX0_digest_48 hl (k := 1) rfl (kr_inc _) (by decide) rfl (fun ls hl => ?_)
    refine lv_goto (tgt := 33) hx hb dX0_digest_51 (by decide) ?_
    exact ih (i + 1, kr_dk A N d i) ls ⟨by omega, he⟩ (by show N - (i + 1) < N - i; omega) (lv_sub hl [0, 1, 2] rfl)
end
section
section KRX
variable {N L : Nat} {A : Nat → Nat → Int32} {ld x : Int32} {i j k n : Nat}
theorem kr_pred (hN : N < 2 ^ 30) : nI N - 1 < x ↔ nI N ≤ x := by
  have h1 : (nI N - 1).toInt = (N : Int) - 1 := pk_sub_toInt (a := N) (b := 1) hN (by decide)
  rw [Int32.lt_iff_toInt_lt, Int32.le_iff_toInt_le, h1, nI_toInt (by omega)]; omega
theorem kr_le0 (h : ∃ q, q ≤ 999 ∧ x = nI q) : x ≤ 0 ↔ x = 0 := by
  obtain ⟨q, hq, rfl⟩ := h
  constructor
  · intro h1
    have := (nI_leI (a := q) (b := 0) (by omega) (by decide)).mp h1
    have e : q = 0 := by omega
    rw [e]; rfl
  · intro h1; rw [h1]; decide
/-- a measure of a chain -/
def kr_mz (x : Int32) : Nat := if x = -1 then 0 else kr_ix x + 1
theorem kr_mz_nI (h : j < 2 ^ 31) : kr_mz (nI j) = j + 1 := by unfold kr_mz; rw [if_neg (kr_kn_ne h), kr_ix_nI h]
theorem kr_mz_lt (hw : kr_wf N L A) (hj : j < N) : kr_mz (A 4 j) < kr_mz (nI j) := by
  have := hw.1
  rw [kr_mz_nI (by omega)]
  rcases (hw.2.2.1 j hj).2.1 with e | ⟨q, hq, e⟩
  · rw [e]; show 0 < j + 1; omega
  · rw [e, kr_mz_nI (by omega)]; omega
theorem kr_mz_le (h : kr_kn N x) (hN : N ≤ 16) : kr_mz x ≤ 16 := by
  rcases h with rfl | ⟨j, hj, rfl⟩
  · show 0 ≤ 16; omega
  · rw [kr_mz_nI (by omega)]; omega
theorem kr_fm_e (n : Nat) (x : Int32) : kr_fm A ld (n + 1) x = if kr_go A ld x then kr_fm A ld n (A 4 (kr_ix x)) else x := rfl
theorem kr_sp_e (n : Nat) (x : Int32) : kr_sp A ld (n + 1) x = if kr_go A ld x then kr_sp A ld n (A 4 (kr_ix x)) + 1 else 0 := rfl
theorem kr_fa_e (n : Nat) (x g : Int32) : kr_fa A (n + 1) x g = if x = -1 then g else if A 3 (kr_ix x) = 0 then 0 else kr_fa A n (A 4 (kr_ix x)) (kr_mx g (A 3 (kr_ix x))) := rfl
theorem kr_lh_e (g : Int32 → Int32) (n : Nat) (x h : Int32) : kr_lh A g (n + 1) x h = if x = -1 then h else if h < kr_en A x then (if g x < kr_en A x then kr_mx h (g x) else kr_lh A g n (A 4 (kr_ix x)) (kr_en A x)) else kr_lh A g n (A 4 (kr_ix x)) h := rfl
theorem kr_fm_st (hw : kr_wf N L A) : ∀ (n : Nat) (x : Int32), kr_kn N x → kr_mz x ≤ n → kr_fm A ld (n + 1) x = kr_fm A ld n x
  | 0, x, h, hm => by
    rcases h with rfl | ⟨j, hj, rfl⟩
    · exact kr_fm_no (fun q => q.1 rfl) 1
    · have := hw.1; rw [kr_mz_nI (by omega)] at hm; omega
  | n + 1, x, h, hm => by
    by_cases hg : kr_go A ld x
    · obtain ⟨j, hj, rfl⟩ := kr_go_kn hw.1 h hg
      have := hw.1
      have h1 := kr_mz_lt hw hj
      rw [kr_fm_e (n + 1) (nI j), kr_fm_e n (nI j), if_pos hg, if_pos hg, kr_ix_nI (by omega)]
      exact kr_fm_st hw n _ (hw.kn hj) (by omega)
    · rw [kr_fm_no hg, kr_fm_no hg]
theorem kr_fm_16 (hw : kr_wf N L A) (hj : j < N) (hg : kr_go A ld (nI j)) : kr_fm A ld 16 (nI j) = kr_fm A ld 16 (A 4 j) := by
  have := hw.1
  have h1 := kr_mz_lt hw hj
  rw [kr_mz_nI (by omega)] at h1
  rw [kr_fm_st hw 15 _ (hw.kn hj) (by omega)]
  exact kr_fm_go (i := 0) (by omega) (by omega) hg
theorem kr_sp_st (hw : kr_wf N L A) : ∀ (n : Nat) (x : Int32), kr_kn N x → kr_mz x ≤ n → kr_sp A ld (n + 1) x = kr_sp A ld n x
  | 0, x, h, hm => by
    rcases h with rfl | ⟨j, hj, rfl⟩
    · exact kr_sp_no (fun q => q.1 rfl) 1
    · have := hw.1; rw [kr_mz_nI (by omega)] at hm; omega
  | n + 1, x, h, hm => by
    by_cases hg : kr_go A ld x
    · obtain ⟨j, hj, rfl⟩ := kr_go_kn hw.1 h hg
      have := hw.1
      have h1 := kr_mz_lt hw hj
      rw [kr_sp_e (n + 1) (nI j), kr_sp_e n (nI j), if_pos hg, if_pos hg, kr_ix_nI (by omega), kr_sp_st hw n _ (hw.kn hj) (by omega)]
    · rw [kr_sp_no hg, kr_sp_no hg]
theorem kr_sp_16 (hw : kr_wf N L A) (hj : j < N) (hg : kr_go A ld (nI j)) : kr_sp A ld 16 (nI j) = kr_sp A ld 16 (A 4 j) + 1 := by
  have := hw.1
  have h1 := kr_mz_lt hw hj
  rw [kr_mz_nI (by omega)] at h1
  rw [kr_sp_st hw 15 _ (hw.kn hj) (by omega)]
  exact kr_sp_go (i := 0) (by omega) (by omega) hg
theorem kr_fa_st (hw : kr_wf N L A) : ∀ (n : Nat) (x g : Int32), kr_kn N x → kr_mz x ≤ n → kr_fa A (n + 1) x g = kr_fa A n x g
  | 0, x, g, h, hm => by
    rcases h with rfl | ⟨j, hj, rfl⟩
    · exact kr_fa_no 1
    · have := hw.1; rw [kr_mz_nI (by omega)] at hm; omega
  | n + 1, x, g, h, hm => by
    rcases h with rfl | ⟨j, hj, rfl⟩
    · rw [kr_fa_no, kr_fa_no]
    · have := hw.1
      have h1 := kr_mz_lt hw hj
      rw [kr_fa_e (n + 1) (nI j), kr_fa_e n (nI j), kr_ix_nI (by omega), kr_fa_st hw n _ _ (hw.kn hj) (by omega)]
theorem kr_fa_16 (hw : kr_wf N L A) (hj : j < N) {g : Int32} (h0 : ¬ A 3 j = 0) : kr_fa A 16 (nI j) g = kr_fa A 16 (A 4 j) (kr_mx g (A 3 j)) := by
  have := hw.1
  have h1 := kr_mz_lt hw hj
  rw [kr_mz_nI (by omega)] at h1
  rw [kr_fa_st hw 15 _ _ (hw.kn hj) (by omega)]
  exact kr_fa_s (i := 0) (by omega) (by omega) h0
theorem kr_lh_st (hw : kr_wf N L A) {g : Int32 → Int32} : ∀ (n : Nat) (x h : Int32), kr_kn N x → kr_mz x ≤ n → kr_lh A g (n + 1) x h = kr_lh A g n x h
  | 0, x, h, hk, hm => by
    rcases hk with rfl | ⟨j, hj, rfl⟩
    · exact kr_lh_no 1
    · have := hw.1; rw [kr_mz_nI (by omega)] at hm; omega
  | n + 1, x, h, hk, hm => by
    rcases hk with rfl | ⟨j, hj, rfl⟩
    · rw [kr_lh_no, kr_lh_no]
    · have := hw.1
      have h1 := kr_mz_lt hw hj
      rw [kr_lh_e g (n + 1) (nI j), kr_lh_e g n (nI j), kr_ix_nI (by omega), kr_lh_st hw n _ _ (hw.kn hj) (by omega), kr_lh_st hw n _ _ (hw.kn hj) (by omega)]
theorem kr_lh_16 (hw : kr_wf N L A) (hj : j < N) {g : Int32 → Int32} {h : Int32} : kr_lh A g 16 (nI j) h = if h < kr_en A (nI j) then (if g (nI j) < kr_en A (nI j) then kr_mx h (g (nI j)) else kr_lh A g 16 (A 4 j) (kr_en A (nI j))) else kr_lh A g 16 (A 4 j) h := by
  have := hw.1
  have h1 := kr_mz_lt hw hj
  rw [kr_mz_nI (by omega)] at h1
  rw [kr_lh_st hw 15 _ _ (hw.kn hj) (by omega), kr_lh_st hw 15 _ _ (hw.kn hj) (by omega)]
  exact kr_lh_s (i := 0) (by omega) (by omega)
/-- a place that holds to the most: nothing comes behind -/
theorem kr_lh_end (hw : kr_wf N L A) (hj : j < N) {g : Int32 → Int32} (he : kr_en A (nI j) = 999) : kr_lh A g 16 (A 4 j) 999 = 999 := by
  have := hw.1
  obtain ⟨-, -, ⟨q, hq, eq⟩, h0⟩ := hw.2.2.1 j hj
  rw [kr_en_nI (by omega)] at he
  by_cases h3 : A 3 j = 0
  · rw [h0 h3]; exact kr_lh_no _
  · rw [if_neg h3, eq] at he
    cases q with
    | zero => exact absurd (eq.trans nI_0) h3
    | succ q =>
      rw [nI_pred] at he
      have := (nI_eq (a := q) (b := 999) (by omega) (by decide)).mp he
      omega
theorem kr_uw_s {n pl q : Nat} {g : Int32} (hn : pl < n) : kr_uw A q (n - pl) pl g = kr_uw A q (n - (pl + 1)) (pl + 1) (kr_mn g (kr_lh A (kr_st A q pl) 16 (A 6 (5 * q + pl)) 0)) := by
  obtain ⟨m, h1, h2⟩ : ∃ m, n - pl = m + 1 ∧ n - (pl + 1) = m := ⟨n - (pl + 1), by omega, rfl⟩
  rw [h1, h2]; rfl
end KRX
theorem kr_inL {L : Nat} {x : Int32} (hL : L ≤ 6) (h : ¬ x < 0 ∧ ¬ nI L ≤ x) : ∃ q, q < L ∧ x = nI q := by
  rcases pk_ix x (n := L) (by omega) with h1 | h1 | h1
  · exact absurd h1 h.1
  · exact absurd h1 h.2
  · exact h1
theorem kr_inN {N : Nat} {x : Int32} (hN : N ≤ 16) (h : ¬ x < 0 ∧ ¬ nI N ≤ x) : ∃ q, q < N ∧ x = nI q := by
  rcases pk_ix x (n := N) (by omega) with h1 | h1 | h1
  · exact absurd h1 h.1
  · exact absurd h1 h.2
  · exact h1
theorem kr_ltne {x y : Int32} (h : x < y) : ¬ x = y := fun e => by rw [e] at h; exact Int32.lt_irrefl h
end
section
/-! what throws: the words, the premises, the calls -/
theorem kr_atw {L : List Cond} (is : List Nat) (h : (L.filter goodWord).all (fun w => decide (w ∈ is.filterMap (fun i => lw_tbl[i]?))) = true) : ∀ w ∈ L.filter goodWord, w ∈ kr_all := by
  intro w hw
  have h1 := List.all_eq_true.mp h w hw
  simp only [decide_eq_true_eq] at h1
  obtain ⟨i, -, hi⟩ := List.mem_filterMap.mp h1
  exact List.mem_filter.mpr ⟨List.mem_of_getElem? hi, (List.mem_filter.mp hw).2⟩
abbrev kr_up2 : List String := ["java/lang/RuntimeException", "java/lang/Exception"]
theorem kr_atI : ∀ w ∈ (vx_atS RX0 120 "java/lang/IndexOutOfBoundsException" kr_up2).filter goodWord, w ∈ kr_all := kr_atw [2, 27, 28, 29, 30, 31, 32, 33, 39, 40, 41, 72, 86, 87, 88, 89, 90, 91, 92, 93, 94, 95, 96, 97, 98, 99, 100, 101, 102, 103, 104, 105, 106, 107, 108, 109, 110, 111, 112, 113, 114, 115, 116, 117, 118, 119, 120, 121, 122, 123, 124, 125, 126, 128, 129, 130, 131, 132, 133, 134, 135, 136, 137, 138, 139, 140, 141, 142, 143, 144, 145, 146, 147, 148, 149, 150, 151, 152, 171, 172, 173, 174, 175, 176, 177, 178, 179, 181, 182, 183, 184, 185, 186, 206, 207, 208, 209, 210, 211, 212, 213, 214, 216, 217, 218, 219, 220, 221, 242, 243, 244, 310, 311, 312, 525] (by decide +kernel)
theorem kr_gdI : ∀ w ∈ Cond.classLink RX0 116 "java/lang/IndexOutOfBoundsException" :: Cond.initialized "java/lang/IndexOutOfBoundsException" :: vx_atS RX0 120 "java/lang/IndexOutOfBoundsException" kr_up2, vx_ot w = true := by decide +kernel
theorem kr_bdI : ∀ w ∈ (vx_atS RX0 120 "java/lang/IndexOutOfBoundsException" kr_up2).filter (fun w => !goodWord w), w ∈ [Cond.castable "java/lang/IndexOutOfBoundsException" "java/lang/IndexOutOfBoundsException", Cond.declares (Bundle.initS "java/lang/RuntimeException"), Cond.declares (Bundle.initS "java/lang/Exception"), Cond.declares (Bundle.initS Bundle.tN)] := by decide +kernel
theorem kr_atA : ∀ w ∈ (vx_atS RX0 49 "java/lang/IllegalArgumentException" kr_up2).filter goodWord, w ∈ kr_all := kr_atw [2, 27, 28, 29, 30, 31, 32, 33, 39, 40, 41, 72, 86, 87, 88, 89, 90, 91, 92, 93, 94, 95, 96, 97, 98, 99, 100, 101, 102, 103, 104, 105, 106, 107, 108, 109, 110, 111, 112, 113, 114, 115, 116, 117, 118, 119, 120, 121, 122, 123, 124, 125, 126, 128, 129, 130, 131, 132, 133, 134, 135, 136, 137, 138, 139, 140, 141, 142, 143, 144, 145, 146, 147, 148, 149, 150, 151, 152, 171, 172, 173, 174, 175, 176, 177, 178, 179, 181, 182, 183, 184, 185, 186, 206, 207, 208, 209, 210, 211, 212, 213, 214, 216, 217, 218, 219, 220, 221, 242, 243, 244, 310, 311, 312, 525] (by decide +kernel)
theorem kr_gdA : ∀ w ∈ Cond.classLink RX0 45 "java/lang/IllegalArgumentException" :: Cond.initialized "java/lang/IllegalArgumentException" :: vx_atS RX0 49 "java/lang/IllegalArgumentException" kr_up2, vx_ot w = true := by decide +kernel
theorem kr_bdA : ∀ w ∈ (vx_atS RX0 49 "java/lang/IllegalArgumentException" kr_up2).filter (fun w => !goodWord w), w ∈ [Cond.castable "java/lang/IllegalArgumentException" "java/lang/IllegalArgumentException", Cond.declares (Bundle.initS "java/lang/RuntimeException"), Cond.declares (Bundle.initS "java/lang/Exception"), Cond.declares (Bundle.initS Bundle.tN)] := by decide +kernel
theorem kr_atS : ∀ w ∈ (vx_atS RX0 58 "java/lang/IllegalStateException" kr_up2).filter goodWord, w ∈ kr_all := kr_atw [2, 27, 28, 29, 30, 31, 32, 33, 39, 40, 41, 72, 86, 87, 88, 89, 90, 91, 92, 93, 94, 95, 96, 97, 98, 99, 100, 101, 102, 103, 104, 105, 106, 107, 108, 109, 110, 111, 112, 113, 114, 115, 116, 117, 118, 119, 120, 121, 122, 123, 124, 125, 126, 128, 129, 130, 131, 132, 133, 134, 135, 136, 137, 138, 139, 140, 141, 142, 143, 144, 145, 146, 147, 148, 149, 150, 151, 152, 171, 172, 173, 174, 175, 176, 177, 178, 179, 181, 182, 183, 184, 185, 186, 206, 207, 208, 209, 210, 211, 212, 213, 214, 216, 217, 218, 219, 220, 221, 242, 243, 244, 310, 311, 312, 525] (by decide +kernel)
theorem kr_gdS : ∀ w ∈ Cond.classLink RX0 54 "java/lang/IllegalStateException" :: Cond.initialized "java/lang/IllegalStateException" :: vx_atS RX0 58 "java/lang/IllegalStateException" kr_up2, vx_ot w = true := by decide +kernel
theorem kr_bdS : ∀ w ∈ (vx_atS RX0 58 "java/lang/IllegalStateException" kr_up2).filter (fun w => !goodWord w), w ∈ [Cond.castable "java/lang/IllegalStateException" "java/lang/IllegalStateException", Cond.declares (Bundle.initS "java/lang/RuntimeException"), Cond.declares (Bundle.initS "java/lang/Exception"), Cond.declares (Bundle.initS Bundle.tN)] := by decide +kernel
def kr_tx : List (Nat × String) := [(47, "efficiency is not 10 to 100"), (52, "crossings is not 1 to 9"), (56, "there are 16 knots"), (65, "into is not -1 and not the number of a knot ahead of this one"), (67, "into is of another kind"), (76, "there are 6 lines"), (88, "the line has 5 ropes"), (118, "there is no such rank"), (201, "kind is not 0 or 1"), (203, "there is no such knot"), (205, "the knot is of the other kind"), (207, "load is not 1 to 999"), (209, "strength is not 1 to 999"), (211, "there is no such line"), (213, "the line has no such place"), (215, "the line is gone")]
/-- what a throw and its catching want of the launch: two statics of Throwable, words of the tables, the texts -/
def kr_T (U : State) : Prop := vx_Zq Bundle.tN "UNASSIGNED_STACK" Bundle.steD (fun _ => False) U U.heap ∧ vx_Zq Bundle.tN "SUPPRESSED_SENTINEL" Bundle.listD (fun _ => False) U U.heap ∧ va_Nw (.declares (Bundle.initS "java/lang/RuntimeException")) U ∧ va_Nw (.declares (Bundle.initS "java/lang/Exception")) U ∧ va_Nw (.declares (Bundle.initS Bundle.tN)) U ∧ va_Nw (.castable "java/lang/IndexOutOfBoundsException" "java/lang/IndexOutOfBoundsException") U ∧ va_Nw (.castable "java/lang/IllegalArgumentException" "java/lang/IllegalArgumentException") U ∧ va_Nw (.castable "java/lang/IllegalStateException" "java/lang/IllegalStateException") U ∧ ∀ q ∈ kr_tx, ∃ sa : Nat, vk_R RX0 q.1 q.2 sa U
theorem kr_T.go {s U : State} {H : Heap} (h : kr_T s) (hU : U.heap = H) (hk : ∀ a : Nat, a < s.heap.size → H[a]? = s.heap[a]?) (hW : s.WarmedH U.vm) : kr_T U := by
  obtain ⟨z1, z2, d1, d2, d3, k1, k2, k3, ht⟩ := h
  refine ⟨?_, ?_, d1.warmD hW, d2.warmD hW, d3.warmD hW, k1.warmC hW, k2.warmC hW, k3.warmC hW, fun q hq => ?_⟩
  · rw [hU]; exact vx_Zq.moved hW.alike (z1.kept (fun a ha _ => hk a ha))
  · rw [hU]; exact vx_Zq.moved hW.alike (z2.kept (fun a ha _ => hk a ha))
  · obtain ⟨sa, hs⟩ := ht q hq
    exact ⟨sa, vk_R.warm hW hs⟩
theorem kr_T.calling {U : State} (h : kr_T U) (g : JFrame) (mk : MethodId) (a : Array Value) : kr_T (U.calling g mk a) := h.go (U := U.calling g mk a) rfl (fun _ _ => rfl) (State.WarmedH.refl U)
def kr_RT (D : va_G) (ws : va_W) (cy : ClassId) (U : State) : Prop := kr_R D ws cy U ∧ kr_T U
theorem kr_blX {D : va_G} {ws : va_W} {cy : ClassId} {av : List Value} : FrameBlind (va_Pc av (kr_RT D ws cy)) := fun a U g mk q => ⟨q.1, ⟨q.2.1.1, va_K.moved (u := U) (U := U.calling g mk a) (Vm.Alike.refl U.vm) q.2.1.2⟩, q.2.2.calling g mk a⟩
theorem kr_blX0 {av : List Value} : FrameBlind (va_Pc av kr_T) := fun a U g mk q => ⟨q.1, q.2.calling g mk a⟩
abbrev kr_no : Array Value → State → Outcome → State → Prop := fun _ _ _ _ => False
abbrev kr_XC (cls : String) : String → State → State → Prop := vx_X (fun _ : Unit => True) (fun E _ _ => E = cls) (fun _ => False)
theorem kr_pvx {D : va_G} {cy : ClassId} {h : Nat} {a : Nat → Nat} {N L : Nat} {A : Nat → Nat → Int32} {As : List Value} {H : Heap} {s : State} (hP : va_P D vwCl (kr_W0 cy h a N L A) H) (hK : va_K D vwCl [(cy, .int)] s) (hT : kr_T s) (hk : ∀ q : Nat, q < s.heap.size → H[q]? = s.heap[q]?) : PreV s H RX0 h (va_Pc (.ref h :: As) (kr_RT D (kr_W0 cy h a N L A) cy)) As := ⟨kr_blX, va_recv hK hP (ci := 0) (q0 := 0) rfl rfl, fun U hU hW => ⟨rfl, ⟨by rw [hU]; exact hP, va_K.moved hW.alike hK⟩, hT.go hU hk hW⟩⟩
theorem kr_psx {As : List Value} {H : Heap} {s : State} (hT : kr_T s) (hk : ∀ q : Nat, q < s.heap.size → H[q]? = s.heap[q]?) : PreS s H (va_Pc As kr_T) As := ⟨kr_blX0, fun U hU hW => ⟨rfl, hT.go hU hk hW⟩⟩
section KRXW
variable {p : Program} {l : Launch} {e : Env} {R : Room} {s : State} {m : MethodId} {args : Array Value} {below : List Frame} {meth : Method} {c : Code} {cc : ByteArray} {pc : Nat} {ls : Array Slot} {rest st0 : List Value}
theorem kr_xgo {g : JFrame} {cls : String} (hr : vx_Run p l e R s m args below meth c s.heap [] 0 0 1 6 (F0 m pc ls st0) rest (fun _ _ _ => False) (kr_XC cls) (fun _ => False)) (ht : ∀ x ∈ c.exceptionTable.toList, False) (hlocks : meth.locks = false) : W p l e R s m args below meth c s.heap [] 0 0 (vx_MQ below kr_no (kr_XC cls) args s 1 6 (fun _ => False)) (F0 m pc ls st0) := by
  intro T hT X
  rcases hr T hT X with ⟨v, st₀, t, T', L, h0, X', hL, e1, e2, hq, st⟩ | ⟨q, st₀, t, T', L, E, ce, h0, X', hL, e1, e2, ⟨u, hu, hE, hF⟩, hce, hcv, hcl, st⟩
  · exact hq.elim
  · have k : vx_W p l e R s m args below meth c T'.heap ([] ++ L) (0 + 1) (0 + 6) (vx_MQ below kr_no (kr_XC cls) args s 1 6 (fun _ => False)) (F0 m pc ls rest) q := by
      refine vx_out (E := E) (ce := ce) (fun x hx => (ht x hx).elim) hlocks (by rw [e1]; exact hce) hcv hcl (fun t2 ht2 _ => ⟨(), trivial, hE, ?_⟩) (fun z hz => hL z hz) (Nat.le_refl _) (Nat.le_refl _)
      refine ⟨by rw [ht2, e1, ← h0]; exact hF.1, fun z h1 h2 => ?_⟩
      rw [ht2, e1, hF.2 z (by rw [h0]; exact h1) h2, h0]
    obtain ⟨t2, a1, b1⟩ := k T' rfl X'
    exact ⟨t2, st.trans a1, b1⟩
/-- a call that throws, not caught here -/
theorem kr_xV {own C : String} {idx maxL nL n : Nat} {y : MethodName} {bytes : ByteArray} {ret : Option FieldType} {rm : Room} {b : Addr} {As : List Value} {Pc : Array Value → State → Prop} {cls : String} (S : CallFix p m c cc nL s args kr_all own) (hM : vx_Met l y (Cond.code y bytes maxL ret :: kr_all) rm Pc kr_no (kr_XC cls) 1 6 (fun _ => False)) (g : GoodIn kr_all (wsV own idx C y (Cond.code y bytes maxL ret :: kr_all))) (hr0 : rm.cells = 1 ∧ rm.slots = 6)
    (hd : y.cls = C ∧ y.cls ≠ "java/lang/invoke/MethodHandle" ∧ y.cls ≠ "java/lang/invoke/VarHandle" ∧ (parseMethodDescriptor y.desc).map (fun d => d.parameters.length) = some n) (hR : rm.frames + 1 ≤ R.frames ∧ 8 + (maxL + 11) + rm.locals ≤ R.locals) (hp : PreV s s.heap C b Pc As) (hn : As.length = n) (hsize : ls.size = nL) (hst : st0 = As.reverse ++ .ref b :: rest) (hW : (rest.map fun v => v.category).sum ≤ 8) (hdg : decode cc pc = .ok (.invokevirtual idx, 3)) (hf : 0 + 1 ≤ R.cells ∧ 0 + 6 ≤ R.slots) (ht : ∀ x ∈ c.exceptionTable.toList, False) (hlocks : meth.locks = false) :
    W p l e R s m args below meth c s.heap [] 0 0 (vx_MQ below kr_no (kr_XC cls) args s 1 6 (fun _ => False)) (F0 m pc ls st0) :=
  kr_xgo (g := F0 m pc ls st0) (vx_runV S hM (cwV n S.2.2.2.2 g rfl hr0.1 hr0.2 hd hR) hp rfl hn hsize hst (lv_room (pc := pc) (ls := ls) (m := m) (rest := st0) hW) hdg hf) ht hlocks
theorem kr_xS {own : String} {idx maxL nL n : Nat} {y : MethodName} {bytes : ByteArray} {ret : Option FieldType} {rm : Room} {As : List Value} {Pc : Array Value → State → Prop} {cls : String} (S : CallFix p m c cc nL s args kr_all own) (hM : vx_Met l y (Cond.code y bytes maxL ret :: kr_all) rm Pc kr_no (kr_XC cls) 1 6 (fun _ => False)) (g : GoodIn kr_all (wsS own idx y (Cond.code y bytes maxL ret :: kr_all))) (hr0 : rm.cells = 1 ∧ rm.slots = 6)
    (hd : y.cls = own ∧ y.cls ≠ "java/lang/invoke/MethodHandle" ∧ y.cls ≠ "java/lang/invoke/VarHandle" ∧ (parseMethodDescriptor y.desc).map (fun d => d.parameters.length) = some n) (hR : rm.frames + 1 ≤ R.frames ∧ 8 + (maxL + 11) + rm.locals ≤ R.locals) (hp : PreS s s.heap Pc As) (hn : As.length = n) (hsize : ls.size = nL) (hst : st0 = As.reverse ++ rest) (hW : (rest.map fun v => v.category).sum ≤ 8) (hdg : decode cc pc = .ok (.invokestatic idx, 3)) (hf : 0 + 1 ≤ R.cells ∧ 0 + 6 ≤ R.slots) (ht : ∀ x ∈ c.exceptionTable.toList, False) (hlocks : meth.locks = false) :
    W p l e R s m args below meth c s.heap [] 0 0 (vx_MQ below kr_no (kr_XC cls) args s 1 6 (fun _ => False)) (F0 m pc ls st0) :=
  kr_xgo (g := F0 m pc ls st0) (vx_runS S hM (cwS n S.2.2.2.2 g rfl hr0.1 hr0.2 hd hR) hp rfl hn hsize hst (lv_room (pc := pc) (ls := ls) (m := m) (rest := st0) hW) hdg hf) ht hlocks
theorem kr_thrI {is : Nat} {text : String} (hx : p.tables.exec = Jvm.exec) (hb : c.code = cc) (hl0 : l.stackTraces = false) (hown : s.vm.findClass RX0 = some m.cls) (hts : ∀ w ∈ kr_all, w.before args s = true) (hT : kr_T s) (htx : (is, text) ∈ kr_tx) (hsize : ls.size = c.maxLocals) (d0 : decode cc pc = .ok (.new 116, 3)) (d3 : decode cc (pc + 3) = .ok (.dup, 1)) (d4 : decode cc (pc + 4) = .ok (.ldc is, 2)) (d6 : decode cc (pc + 6) = .ok (.invokespecial 120, 3)) (d9 : decode cc (pc + 9) = .ok (.athrow, 1)) (ht : ∀ x ∈ c.exceptionTable.toList, False) (hR : 5 < R.frames ∧ (rest.map fun v => v.category).sum + 82 ≤ R.locals ∧ 0 + 1 ≤ R.cells ∧ 0 + 6 ≤ R.slots) (hlocks : meth.locks = false) :
    W p l e R s m args below meth c s.heap [] 0 0 (vx_MQ below kr_no (kr_XC "java/lang/IndexOutOfBoundsException") args s 1 6 (fun _ => False)) (F0 m pc ls rest) := by
  obtain ⟨z1, z2, d1, d2, d3w, k1, k2, k3, htt⟩ := hT
  obtain ⟨sa, hs⟩ := htt _ htx
  exact vx_throwS (A := fun _ => False) hx hb hl0 hown (by decide) (by decide) (hts _ kq_86) (hts _ kq_30) hs (vx_hat (fun w hw => hts w (kr_atI w hw)) kr_bdI (vx_c (va_Nw.use rfl k1) (vx_c (va_Nw.use rfl d1) (vx_c (va_Nw.use rfl d2) (vx_c (va_Nw.use rfl d3w) vx_n))))) kr_gdI z1 z2 va_S.rf hsize d0 d3 d4 d6 d9 (fun x hx => (ht x hx).elim) hR.1 hR.2.1 hR.2.2.1 hR.2.2.2 hlocks (fun t _ h1 h2 => ⟨(), trivial, rfl, h1, fun q hq _ => h2 q hq⟩) (fun z hz => absurd hz List.not_mem_nil) (Nat.le_refl _) (Nat.le_refl _)
theorem kr_thrA {is : Nat} {text : String} (hx : p.tables.exec = Jvm.exec) (hb : c.code = cc) (hl0 : l.stackTraces = false) (hown : s.vm.findClass RX0 = some m.cls) (hts : ∀ w ∈ kr_all, w.before args s = true) (hT : kr_T s) (htx : (is, text) ∈ kr_tx) (hsize : ls.size = c.maxLocals) (d0 : decode cc pc = .ok (.new 45, 3)) (d3 : decode cc (pc + 3) = .ok (.dup, 1)) (d4 : decode cc (pc + 4) = .ok (.ldc is, 2)) (d6 : decode cc (pc + 6) = .ok (.invokespecial 49, 3)) (d9 : decode cc (pc + 9) = .ok (.athrow, 1)) (ht : ∀ x ∈ c.exceptionTable.toList, False) (hR : 5 < R.frames ∧ (rest.map fun v => v.category).sum + 82 ≤ R.locals ∧ 0 + 1 ≤ R.cells ∧ 0 + 6 ≤ R.slots) (hlocks : meth.locks = false) :
    W p l e R s m args below meth c s.heap [] 0 0 (vx_MQ below kr_no (kr_XC "java/lang/IllegalArgumentException") args s 1 6 (fun _ => False)) (F0 m pc ls rest) := by
  obtain ⟨z1, z2, d1, d2, d3w, k1, k2, k3, htt⟩ := hT
  obtain ⟨sa, hs⟩ := htt _ htx
  exact vx_throwS (A := fun _ => False) hx hb hl0 hown (by decide) (by decide) (hts _ kq_171) (hts _ kq_31) hs (vx_hat (fun w hw => hts w (kr_atA w hw)) kr_bdA (vx_c (va_Nw.use rfl k2) (vx_c (va_Nw.use rfl d1) (vx_c (va_Nw.use rfl d2) (vx_c (va_Nw.use rfl d3w) vx_n))))) kr_gdA z1 z2 va_S.rf hsize d0 d3 d4 d6 d9 (fun x hx => (ht x hx).elim) hR.1 hR.2.1 hR.2.2.1 hR.2.2.2 hlocks (fun t _ h1 h2 => ⟨(), trivial, rfl, h1, fun q hq _ => h2 q hq⟩) (fun z hz => absurd hz List.not_mem_nil) (Nat.le_refl _) (Nat.le_refl _)
theorem kr_thrS {is : Nat} {text : String} (hx : p.tables.exec = Jvm.exec) (hb : c.code = cc) (hl0 : l.stackTraces = false) (hown : s.vm.findClass RX0 = some m.cls) (hts : ∀ w ∈ kr_all, w.before args s = true) (hT : kr_T s) (htx : (is, text) ∈ kr_tx) (hsize : ls.size = c.maxLocals) (d0 : decode cc pc = .ok (.new 54, 3)) (d3 : decode cc (pc + 3) = .ok (.dup, 1)) (d4 : decode cc (pc + 4) = .ok (.ldc is, 2)) (d6 : decode cc (pc + 6) = .ok (.invokespecial 58, 3)) (d9 : decode cc (pc + 9) = .ok (.athrow, 1)) (ht : ∀ x ∈ c.exceptionTable.toList, False) (hR : 5 < R.frames ∧ (rest.map fun v => v.category).sum + 82 ≤ R.locals ∧ 0 + 1 ≤ R.cells ∧ 0 + 6 ≤ R.slots) (hlocks : meth.locks = false) :
    W p l e R s m args below meth c s.heap [] 0 0 (vx_MQ below kr_no (kr_XC "java/lang/IllegalStateException") args s 1 6 (fun _ => False)) (F0 m pc ls rest) := by
  obtain ⟨z1, z2, d1, d2, d3w, k1, k2, k3, htt⟩ := hT
  obtain ⟨sa, hs⟩ := htt _ htx
  exact vx_throwS (A := fun _ => False) hx hb hl0 hown (by decide) (by decide) (hts _ kq_206) (hts _ kq_32) hs (vx_hat (fun w hw => hts w (kr_atS w hw)) kr_bdS (vx_c (va_Nw.use rfl k3) (vx_c (va_Nw.use rfl d1) (vx_c (va_Nw.use rfl d2) (vx_c (va_Nw.use rfl d3w) vx_n))))) kr_gdS z1 z2 va_S.rf hsize d0 d3 d4 d6 d9 (fun x hx => (ht x hx).elim) hR.1 hR.2.1 hR.2.2.1 hR.2.2.2 hlocks (fun t _ h1 h2 => ⟨(), trivial, rfl, h1, fun q hq _ => h2 q hq⟩) (fun z hz => absurd hz List.not_mem_nil) (Nat.le_refl _) (Nat.le_refl _)
end KRXW
end
section
/-! which exception, if any: 0 none, 1, 2, 3 in the document's order -/
abbrev kr_i (N : Nat) (x : Int32) : Prop := ¬ x < 0 ∧ ¬ nI N ≤ x
abbrev kr_o (x : Int32) : Prop := ¬ x < 1 ∧ ¬ 999 < x
abbrev kr_q (L : Nat) (A : Nat → Nat → Int32) (x y : Int32) : Prop := kr_i L x ∧ (¬ y < 0 ∧ ¬ A 5 (kr_ix x) ≤ y)
def kr_cd (P Q R : Prop) [Decidable P] [Decidable Q] [Decidable R] : Int32 := if P then (if Q then (if R then 0 else 3) else 2) else 1
def kr_E (c : Int32) : String := if c = 1 then "java/lang/IndexOutOfBoundsException" else if c = 2 then "java/lang/IllegalArgumentException" else "java/lang/IllegalStateException"
section KRC
theorem kr_cd0 {P Q R : Prop} [Decidable P] [Decidable Q] [Decidable R] (h1 : P) (h2 : Q) (h3 : R) : kr_cd P Q R = 0 := by unfold kr_cd; rw [if_pos h1, if_pos h2, if_pos h3]
theorem kr_cd1 {P Q R : Prop} [Decidable P] [Decidable Q] [Decidable R] (h : ¬ P) : kr_cd P Q R = 1 := by unfold kr_cd; rw [if_neg h]
theorem kr_cd2 {P Q R : Prop} [Decidable P] [Decidable Q] [Decidable R] (h1 : P) (h : ¬ Q) : kr_cd P Q R = 2 := by unfold kr_cd; rw [if_pos h1, if_neg h]
theorem kr_cd3 {P Q R : Prop} [Decidable P] [Decidable Q] [Decidable R] (h1 : P) (h2 : Q) (h : ¬ R) : kr_cd P Q R = 3 := by unfold kr_cd; rw [if_pos h1, if_pos h2, if_neg h]
theorem kr_cdE {P Q R : Prop} [Decidable P] [Decidable Q] [Decidable R] (h : kr_cd P Q R = 0) : P ∧ Q ∧ R := by
  unfold kr_cd at h
  by_cases h1 : P
  · rw [if_pos h1] at h
    by_cases h2 : Q
    · rw [if_pos h2] at h
      by_cases h3 : R
      · exact ⟨h1, h2, h3⟩
      · rw [if_neg h3] at h; exact absurd h (by decide)
    · rw [if_neg h2] at h; exact absurd h (by decide)
  · rw [if_neg h1] at h; exact absurd h (by decide)
theorem kr_cdX {P Q R : Prop} [Decidable P] [Decidable Q] [Decidable R] (h : ¬ kr_cd P Q R = 0) : kr_cd P Q R = 1 ∧ ¬ P ∨ kr_cd P Q R = 2 ∧ P ∧ ¬ Q ∨ kr_cd P Q R = 3 ∧ P ∧ Q ∧ ¬ R := by
  by_cases h1 : P
  · by_cases h2 : Q
    · by_cases h3 : R
      · exact absurd (kr_cd0 h1 h2 h3) h
      · exact Or.inr (Or.inr ⟨kr_cd3 h1 h2 h3, h1, h2, h3⟩)
    · exact Or.inr (Or.inl ⟨kr_cd2 h1 h2, h1, h2⟩)
  · exact Or.inl ⟨kr_cd1 h1, h1⟩
theorem kr_E1 : kr_E 1 = "java/lang/IndexOutOfBoundsException" := rfl
theorem kr_E2 : kr_E 2 = "java/lang/IllegalArgumentException" := rfl
theorem kr_E3 : kr_E 3 = "java/lang/IllegalStateException" := rfl
end KRC
theorem kr_inS {k : Nat} {z : Int32} (hk : k < 2 ^ 31) (h1 : ¬ z < -1) (h2 : z < nI k) (h3 : ¬ z = -1) : ∃ j, j < k ∧ z = nI j := by
  have h0 : ¬ z < 0 := by
    intro h
    have h4 : ¬ z.toInt = -1 := lv_neT h3 (by decide)
    rw [Int32.lt_iff_toInt_lt] at h1 h
    rw [show (-1 : Int32).toInt = -1 by decide] at h1
    rw [show (0 : Int32).toInt = 0 by decide] at h
    omega
  rcases pk_ix z (n := k) hk with h4 | h4 | h4
  · exact absurd h4 h0
  · exact absurd h2 (kr_ngt2 h4)
  · exact h4
theorem kr_inP {N L : Nat} {A : Nat → Nat → Int32} {x y : Int32} (hw : kr_wf N L A) (h : kr_q L A x y) : ∃ q pl, q < L ∧ pl < kr_rc A q ∧ x = nI q ∧ y = nI pl := by
  obtain ⟨q, hq, rfl⟩ := kr_inL hw.2.1 h.1
  obtain ⟨hrc, er⟩ := hw.rc hq
  have hL := hw.2.1
  have h2 := h.2
  rw [kr_ix_nI (by omega), er] at h2
  rcases pk_ix y (n := kr_rc A q) (by omega) with h4 | h4 | ⟨j, hj, h4⟩
  · exact absurd h4 h2.1
  · exact absurd h4 h2.2
  · exact ⟨q, j, hq, hj, rfl, h4⟩
theorem kr_k01 {x : Int32} : (¬ x < 0 ∧ ¬ 1 < x) ↔ (x = 0 ∨ x = 1) := by
  constructor
  · intro h
    obtain ⟨j, hj, e⟩ := nI_of2 (M := 1) (n := 1) (by decide) h.1 (Int32.not_lt.mp h.2)
    rcases (show j = 0 ∨ j = 1 by omega) with rfl | rfl
    · exact Or.inl e
    · exact Or.inr e
  · rintro (rfl | rfl) <;> exact ⟨by decide, by decide⟩
end
section
set_option maxHeartbeats 4000000 in
set_option maxRecDepth 100000 in
theorem x_X0_checkKind (l : Launch) (hl0 : l.stackTraces = false) (x : Int32) (hx0 : ¬ (x = 0 ∨ x = 1)) : vx_Met l yX0_checkKind (Cond.code yX0_checkKind cX0_checkKind 1 none :: kr_all) ({ frames := 6, cells := 1, slots := 6, locals := 90 }) (va_Pc [.int x] kr_T) kr_no (kr_XC "java/lang/IndexOutOfBoundsException") 1 6 (fun _ => False) := by
  refine kr_ofX (by decide) (Nat.le_of_ble_eq_true rfl) ?_
  intro p e s m below meth c ls hx hb hml hr hts hown hlocks ht hv hl
  have hT := hv
  have hown : s.vm.findClass RX0 = some m.cls := hown
  have hl : lv_has ls 1 [(0, .int x)] := hl
  refine lv_iload_n hx hb dX0_checkKind_0 rfl (lv_at hl 0 rfl) ?_
  refine lv_if_eq (tgt := 19) hx hb dX0_checkKind_1 (by decide) (fun c1 => absurd (Or.inl c1) hx0) (fun c1 => ?_)
  refine lv_iload_n hx hb dX0_checkKind_4 rfl (lv_at hl 0 rfl) ?_
  refine lv_iconst (v := 1) hx hb dX0_checkKind_5 (by decide) ?_
  refine lv_icmp_eq (tgt := 19) hx hb dX0_checkKind_6 (by decide) (fun c6 => absurd (Or.inr c6) hx0) (fun c6 => ?_)
  exact kr_thrI hx hb hl0 hown hts hT (List.mem_of_getElem? (i := 8) rfl) (hl.1.trans hml.symm) dX0_checkKind_9 dX0_checkKind_12 dX0_checkKind_13 dX0_checkKind_15 dX0_checkKind_18 ht ⟨by decide, by decide, by decide, by decide⟩ hlocks
set_option maxHeartbeats 4000000 in
set_option maxRecDepth 100000 in
theorem x_X0_checkKnot (l : Launch) (hl0 : l.stackTraces = false) (D : va_G) (cy : ClassId) (h : Nat) (a : Nat → Nat) (N L : Nat) (A : Nat → Nat → Int32) (x : Int32) (hx0 : ¬ kr_i N x) : vx_Met l yX0_checkKnot (Cond.code yX0_checkKnot cX0_checkKnot 2 none :: kr_all) ({ frames := 6, cells := 1, slots := 6, locals := 90 }) (va_Pc [.ref h, .int x] (kr_RT D (kr_W0 cy h a N L A) cy)) kr_no (kr_XC "java/lang/IndexOutOfBoundsException") 1 6 (fun _ => False) := by
  refine kr_ofX (by decide) (Nat.le_of_ble_eq_true rfl) ?_
  intro p e s m below meth c ls hx hb hml hr hts hown hlocks ht hv hl
  obtain ⟨⟨hP, hK⟩, hT⟩ := hv
  have hown : s.vm.findClass RX0 = some m.cls := hown
  have hl : lv_has ls 2 [(0, .ref h), (1, .int x)] := hl
  refine lv_aload_n hx hb dX0_checkKnot_0 rfl (lv_at hl 0 rfl) ?_
  refine lv_iload_n hx hb dX0_checkKnot_1 rfl (lv_at hl 1 rfl) ?_
  refine kr_vI (n := 1) (As := [.int x]) (rest := []) ⟨hx, hb, hml, hown, hts⟩ (c_X0_isKnot l D cy h a N L A x) kg_RX0_125 ⟨rfl, rfl⟩ (by decide +kernel) ⟨Nat.le_of_ble_eq_true rfl, Nat.le_of_ble_eq_true rfl⟩ (kr_pv0 hP hK) rfl hl.1 rfl (Nat.le_of_ble_eq_true rfl) dX0_checkKnot_2 ⟨Nat.zero_le _, Nat.zero_le _⟩ (fun r9 e9 => ?_)
  subst e9
  refine lv_if_ne (tgt := 18) hx hb dX0_checkKnot_5 (by decide) (fun c5 => absurd (kr_if1 c5) hx0) (fun c5 => ?_)
  exact kr_thrI hx hb hl0 hown hts hT (List.mem_of_getElem? (i := 9) rfl) (hl.1.trans hml.symm) dX0_checkKnot_8 dX0_checkKnot_11 dX0_checkKnot_12 dX0_checkKnot_14 dX0_checkKnot_17 ht ⟨by decide, by decide, by decide, by decide⟩ hlocks
set_option maxHeartbeats 4000000 in
set_option maxRecDepth 100000 in
theorem x_X0_checkOfKind (l : Launch) (hl0 : l.stackTraces = false) (D : va_G) (cy : ClassId) (h : Nat) (a : Nat → Nat) (N L : Nat) (A : Nat → Nat → Int32) (k : Nat) (kd : Int32) (hk : k < 16) (he : ¬ A 0 k = kd) : vx_Met l yX0_checkOfKind (Cond.code yX0_checkOfKind cX0_checkOfKind 3 none :: kr_all) ({ frames := 6, cells := 1, slots := 6, locals := 90 }) (va_Pc [.ref h, .int (nI k), .int kd] (kr_RT D (kr_W0 cy h a N L A) cy)) kr_no (kr_XC "java/lang/IllegalArgumentException") 1 6 (fun _ => False) := by
  refine kr_ofX (by decide) (Nat.le_of_ble_eq_true rfl) ?_
  intro p e s m below meth c ls hx hb hml hr hts hown hlocks ht hv hl
  obtain ⟨⟨hP, hK⟩, hT⟩ := hv
  have hown : s.vm.findClass RX0 = some m.cls := hown
  have hl : lv_has ls 3 [(0, .ref h), (1, .int (nI k)), (2, .int kd)] := hl
  refine lv_aload_n hx hb dX0_checkOfKind_0 rfl (lv_at hl 0 rfl) ?_
  refine va_get (ci := 0) (v := .ref (a 0)) (C := RX0) (T := TX0) (N := 10) hx hb hts kr_wsX0 hown hK hP 0 rfl rfl 0 (by decide) (hts _ kq_42) (fun _ h9 => h9) rfl dX0_checkOfKind_1 ?_
  refine lv_iload_n hx hb dX0_checkOfKind_4 rfl (lv_at hl 1 rfl) ?_
  refine kr_ald hx hb hK hP 1 0 rfl rfl k (by omega) (by decide) dX0_checkOfKind_5 ?_
  refine lv_iload_n hx hb dX0_checkOfKind_6 rfl (lv_at hl 2 rfl) ?_
  refine lv_icmp_eq (tgt := 20) hx hb dX0_checkOfKind_7 (by decide) (fun c7 => absurd c7 he) (fun c7 => ?_)
  exact kr_thrA hx hb hl0 hown hts hT (List.mem_of_getElem? (i := 10) rfl) (hl.1.trans hml.symm) dX0_checkOfKind_10 dX0_checkOfKind_13 dX0_checkOfKind_14 dX0_checkOfKind_16 dX0_checkOfKind_19 ht ⟨by decide, by decide, by decide, by decide⟩ hlocks
set_option maxHeartbeats 4000000 in
set_option maxRecDepth 100000 in
theorem x_X0_checkLoad (l : Launch) (hl0 : l.stackTraces = false) (x : Int32) (hx0 : ¬ kr_o x) : vx_Met l yX0_checkLoad (Cond.code yX0_checkLoad cX0_checkLoad 1 none :: kr_all) ({ frames := 6, cells := 1, slots := 6, locals := 90 }) (va_Pc [.int x] kr_T) kr_no (kr_XC "java/lang/IllegalArgumentException") 1 6 (fun _ => False) := by
  refine kr_ofX (by decide) (Nat.le_of_ble_eq_true rfl) ?_
  intro p e s m below meth c ls hx hb hml hr hts hown hlocks ht hv hl
  have hT := hv
  have hown : s.vm.findClass RX0 = some m.cls := hown
  have hl : lv_has ls 1 [(0, .int x)] := hl
  refine lv_iload_n hx hb dX0_checkLoad_0 rfl (lv_at hl 0 rfl) ?_
  refine lv_iconst (v := 1) hx hb dX0_checkLoad_1 (by decide) ?_
  refine lv_icmp_lt (tgt := 12) hx hb dX0_checkLoad_2 (by decide) (fun c2 => ?_) (fun c2 => ?_)
  · exact kr_thrA hx hb hl0 hown hts hT (List.mem_of_getElem? (i := 11) rfl) (hl.1.trans hml.symm) dX0_checkLoad_12 dX0_checkLoad_15 dX0_checkLoad_16 dX0_checkLoad_18 dX0_checkLoad_21 ht ⟨by decide, by decide, by decide, by decide⟩ hlocks
  · refine lv_iload_n hx hb dX0_checkLoad_5 rfl (lv_at hl 0 rfl) ?_
    refine lv_sipush (v := 999) hx hb dX0_checkLoad_6 (by decide) ?_
    refine lv_icmp_le (tgt := 22) hx hb dX0_checkLoad_9 (by decide) (fun c9 => absurd ⟨c2, kr_ngt2 c9⟩ hx0) (fun c9 => ?_)
    exact kr_thrA hx hb hl0 hown hts hT (List.mem_of_getElem? (i := 11) rfl) (hl.1.trans hml.symm) dX0_checkLoad_12 dX0_checkLoad_15 dX0_checkLoad_16 dX0_checkLoad_18 dX0_checkLoad_21 ht ⟨by decide, by decide, by decide, by decide⟩ hlocks
set_option maxHeartbeats 4000000 in
set_option maxRecDepth 100000 in
theorem x_X0_checkStrength (l : Launch) (hl0 : l.stackTraces = false) (x : Int32) (hx0 : ¬ kr_o x) : vx_Met l yX0_checkStrength (Cond.code yX0_checkStrength cX0_checkStrength 1 none :: kr_all) ({ frames := 6, cells := 1, slots := 6, locals := 90 }) (va_Pc [.int x] kr_T) kr_no (kr_XC "java/lang/IllegalArgumentException") 1 6 (fun _ => False) := by
  refine kr_ofX (by decide) (Nat.le_of_ble_eq_true rfl) ?_
  intro p e s m below meth c ls hx hb hml hr hts hown hlocks ht hv hl
  have hT := hv
  have hown : s.vm.findClass RX0 = some m.cls := hown
  have hl : lv_has ls 1 [(0, .int x)] := hl
  refine lv_iload_n hx hb dX0_checkStrength_0 rfl (lv_at hl 0 rfl) ?_
  refine lv_iconst (v := 1) hx hb dX0_checkStrength_1 (by decide) ?_
  refine lv_icmp_lt (tgt := 12) hx hb dX0_checkStrength_2 (by decide) (fun c2 => ?_) (fun c2 => ?_)
  · exact kr_thrA hx hb hl0 hown hts hT (List.mem_of_getElem? (i := 12) rfl) (hl.1.trans hml.symm) dX0_checkStrength_12 dX0_checkStrength_15 dX0_checkStrength_16 dX0_checkStrength_18 dX0_checkStrength_21 ht ⟨by decide, by decide, by decide, by decide⟩ hlocks
  · refine lv_iload_n hx hb dX0_checkStrength_5 rfl (lv_at hl 0 rfl) ?_
    refine lv_sipush (v := 999) hx hb dX0_checkStrength_6 (by decide) ?_
    refine lv_icmp_le (tgt := 22) hx hb dX0_checkStrength_9 (by decide) (fun c9 => absurd ⟨c2, kr_ngt2 c9⟩ hx0) (fun c9 => ?_)
    exact kr_thrA hx hb hl0 hown hts hT (List.mem_of_getElem? (i := 12) rfl) (hl.1.trans hml.symm) dX0_checkStrength_12 dX0_checkStrength_15 dX0_checkStrength_16 dX0_checkStrength_18 dX0_checkStrength_21 ht ⟨by decide, by decide, by decide, by decide⟩ hlocks
set_option maxHeartbeats 4000000 in
set_option maxRecDepth 100000 in
theorem x_X0_checkLine (l : Launch) (hl0 : l.stackTraces = false) (D : va_G) (cy : ClassId) (h : Nat) (a : Nat → Nat) (N L : Nat) (A : Nat → Nat → Int32) (x : Int32) (hx0 : ¬ kr_i L x) : vx_Met l yX0_checkLine (Cond.code yX0_checkLine cX0_checkLine 2 none :: kr_all) ({ frames := 6, cells := 1, slots := 6, locals := 90 }) (va_Pc [.ref h, .int x] (kr_RT D (kr_W0 cy h a N L A) cy)) kr_no (kr_XC "java/lang/IndexOutOfBoundsException") 1 6 (fun _ => False) := by
  refine kr_ofX (by decide) (Nat.le_of_ble_eq_true rfl) ?_
  intro p e s m below meth c ls hx hb hml hr hts hown hlocks ht hv hl
  obtain ⟨⟨hP, hK⟩, hT⟩ := hv
  have hown : s.vm.findClass RX0 = some m.cls := hown
  have hl : lv_has ls 2 [(0, .ref h), (1, .int x)] := hl
  refine lv_iload_n hx hb dX0_checkLine_0 rfl (lv_at hl 1 rfl) ?_
  refine lv_if_lt (tgt := 12) hx hb dX0_checkLine_1 (by decide) (fun c1 => ?_) (fun c1 => ?_)
  · exact kr_thrI hx hb hl0 hown hts hT (List.mem_of_getElem? (i := 13) rfl) (hl.1.trans hml.symm) dX0_checkLine_12 dX0_checkLine_15 dX0_checkLine_16 dX0_checkLine_18 dX0_checkLine_21 ht ⟨by decide, by decide, by decide, by decide⟩ hlocks
  · refine lv_iload_n hx hb dX0_checkLine_4 rfl (lv_at hl 1 rfl) ?_
    refine lv_aload_n hx hb dX0_checkLine_5 rfl (lv_at hl 0 rfl) ?_
    refine va_get (ci := 0) (v := .int (nI L)) (C := RX0) (T := TX0) (N := 10) hx hb hts kr_wsX0 hown hK hP 0 rfl rfl 7 (by decide) (hts _ kq_49) (fun _ h9 => h9) rfl dX0_checkLine_6 ?_
    refine lv_icmp_lt (tgt := 22) hx hb dX0_checkLine_9 (by decide) (fun c9 => absurd ⟨c1, kr_ngt c9⟩ hx0) (fun c9 => ?_)
    exact kr_thrI hx hb hl0 hown hts hT (List.mem_of_getElem? (i := 13) rfl) (hl.1.trans hml.symm) dX0_checkLine_12 dX0_checkLine_15 dX0_checkLine_16 dX0_checkLine_18 dX0_checkLine_21 ht ⟨by decide, by decide, by decide, by decide⟩ hlocks
set_option maxHeartbeats 4000000 in
set_option maxRecDepth 100000 in
theorem x_X0_checkPlace (l : Launch) (hl0 : l.stackTraces = false) (D : va_G) (cy : ClassId) (h : Nat) (a : Nat → Nat) (N L : Nat) (A : Nat → Nat → Int32) (x y : Int32) (hw : kr_wf N L A) (hx0 : ¬ kr_q L A x y) : vx_Met l yX0_checkPlace (Cond.code yX0_checkPlace cX0_checkPlace 3 none :: kr_all) ({ frames := 7, cells := 1, slots := 6, locals := 111 }) (va_Pc [.ref h, .int x, .int y] (kr_RT D (kr_W0 cy h a N L A) cy)) kr_no (kr_XC "java/lang/IndexOutOfBoundsException") 1 6 (fun _ => False) := by
  refine kr_ofX (by decide) (Nat.le_of_ble_eq_true rfl) ?_
  intro p e s m below meth c ls hx hb hml hr hts hown hlocks ht hv hl
  obtain ⟨⟨hP, hK⟩, hT⟩ := hv
  have hown : s.vm.findClass RX0 = some m.cls := hown
  have hl : lv_has ls 3 [(0, .ref h), (1, .int x), (2, .int y)] := hl
  have hL := hw.2.1
  refine lv_aload_n hx hb dX0_checkPlace_0 rfl (lv_at hl 0 rfl) ?_
  refine lv_iload_n hx hb dX0_checkPlace_1 rfl (lv_at hl 1 rfl) ?_
  by_cases hk : kr_i L x
  · obtain ⟨q, hq, rfl⟩ := kr_inL hL hk
    refine kr_vV (n := 1) (As := [.int (nI q)]) (rest := []) ⟨hx, hb, hml, hown, hts⟩ (c_X0_checkLine l D cy h a N L A q (by omega) (by omega)) kg_RX0_82 ⟨rfl, rfl⟩ (by decide +kernel) ⟨Nat.le_of_ble_eq_true rfl, Nat.le_of_ble_eq_true rfl⟩ (kr_pv0 hP hK) rfl hl.1 rfl (Nat.le_of_ble_eq_true rfl) dX0_checkPlace_2 ⟨Nat.zero_le _, Nat.zero_le _⟩ ?_
    refine lv_iload_n hx hb dX0_checkPlace_5 rfl (lv_at hl 2 rfl) ?_
    refine lv_if_lt (tgt := 19) hx hb dX0_checkPlace_6 (by decide) (fun c6 => ?_) (fun c6 => ?_)
    · exact kr_thrI hx hb hl0 hown hts hT (List.mem_of_getElem? (i := 14) rfl) (hl.1.trans hml.symm) dX0_checkPlace_19 dX0_checkPlace_22 dX0_checkPlace_23 dX0_checkPlace_25 dX0_checkPlace_28 ht ⟨by decide, by decide, by decide, by decide⟩ hlocks
    · refine lv_iload_n hx hb dX0_checkPlace_9 rfl (lv_at hl 2 rfl) ?_
      refine lv_aload_n hx hb dX0_checkPlace_10 rfl (lv_at hl 0 rfl) ?_
      refine va_get (ci := 0) (v := .ref (a 5)) (C := RX0) (T := TX0) (N := 10) hx hb hts kr_wsX0 hown hK hP 0 rfl rfl 6 (by decide) (hts _ kq_48) (fun _ h9 => h9) rfl dX0_checkPlace_11 ?_
      refine lv_iload_n hx hb dX0_checkPlace_14 rfl (lv_at hl 1 rfl) ?_
      refine kr_ald hx hb hK hP 6 0 rfl rfl q (by omega) (by decide) dX0_checkPlace_15 ?_
      refine lv_icmp_lt (tgt := 29) hx hb dX0_checkPlace_16 (by decide) (fun c16 => absurd ⟨hk, c6, by rw [kr_ix_nI (by omega)]; exact kr_ngt c16⟩ hx0) (fun c16 => ?_)
      exact kr_thrI hx hb hl0 hown hts hT (List.mem_of_getElem? (i := 14) rfl) (hl.1.trans hml.symm) dX0_checkPlace_19 dX0_checkPlace_22 dX0_checkPlace_23 dX0_checkPlace_25 dX0_checkPlace_28 ht ⟨by decide, by decide, by decide, by decide⟩ hlocks
  · exact kr_xV (n := 1) (As := [.int x]) (rest := []) ⟨hx, hb, hml, hown, hts⟩ (x_X0_checkLine l hl0 D cy h a N L A x hk) kg_RX0_82 ⟨rfl, rfl⟩ (by decide +kernel) ⟨Nat.le_of_ble_eq_true rfl, Nat.le_of_ble_eq_true rfl⟩ (kr_pvx hP hK hT (fun _ _ => rfl)) rfl hl.1 rfl (Nat.le_of_ble_eq_true rfl) dX0_checkPlace_2 ⟨Nat.le_of_ble_eq_true rfl, Nat.le_of_ble_eq_true rfl⟩ ht hlocks
set_option maxHeartbeats 4000000 in
set_option maxRecDepth 100000 in
theorem x_X0_checkNotGone (l : Launch) (hl0 : l.stackTraces = false) (D : va_G) (cy : ClassId) (h : Nat) (a : Nat → Nat) (N L : Nat) (A : Nat → Nat → Int32) (q : Nat) (hq : q < 6) (hg : A 5 q = 0) : vx_Met l yX0_checkNotGone (Cond.code yX0_checkNotGone cX0_checkNotGone 2 none :: kr_all) ({ frames := 6, cells := 1, slots := 6, locals := 90 }) (va_Pc [.ref h, .int (nI q)] (kr_RT D (kr_W0 cy h a N L A) cy)) kr_no (kr_XC "java/lang/IllegalStateException") 1 6 (fun _ => False) := by
  refine kr_ofX (by decide) (Nat.le_of_ble_eq_true rfl) ?_
  intro p e s m below meth c ls hx hb hml hr hts hown hlocks ht hv hl
  obtain ⟨⟨hP, hK⟩, hT⟩ := hv
  have hown : s.vm.findClass RX0 = some m.cls := hown
  have hl : lv_has ls 2 [(0, .ref h), (1, .int (nI q))] := hl
  refine lv_aload_n hx hb dX0_checkNotGone_0 rfl (lv_at hl 0 rfl) ?_
  refine lv_iload_n hx hb dX0_checkNotGone_1 rfl (lv_at hl 1 rfl) ?_
  refine kr_vI (n := 1) (As := [.int (nI q)]) (rest := []) ⟨hx, hb, hml, hown, hts⟩ (c_X0_isGone l D cy h a N L A q (by omega)) kg_RX0_140 ⟨rfl, rfl⟩ (by decide +kernel) ⟨Nat.le_of_ble_eq_true rfl, Nat.le_of_ble_eq_true rfl⟩ (kr_pv0 hP hK) rfl hl.1 rfl (Nat.le_of_ble_eq_true rfl) dX0_checkNotGone_2 ⟨Nat.zero_le _, Nat.zero_le _⟩ (fun r9 e9 => ?_)
  subst e9
  refine lv_if_eq (tgt := 18) hx hb dX0_checkNotGone_5 (by decide) (fun c5 => absurd hg (kr_if0 c5)) (fun c5 => ?_)
  exact kr_thrS hx hb hl0 hown hts hT (List.mem_of_getElem? (i := 15) rfl) (hl.1.trans hml.symm) dX0_checkNotGone_8 dX0_checkNotGone_11 dX0_checkNotGone_12 dX0_checkNotGone_14 dX0_checkNotGone_17 ht ⟨by decide, by decide, by decide, by decide⟩ hlocks
set_option maxHeartbeats 4000000 in
set_option maxRecDepth 100000 in
theorem x_X0_kindOf (l : Launch) (hl0 : l.stackTraces = false) (D : va_G) (cy : ClassId) (h : Nat) (a : Nat → Nat) (N L : Nat) (A : Nat → Nat → Int32) (x : Int32) (hc : ¬ kr_cd (kr_i N x) True True = 0) : vx_Met l yX0_kindOf (Cond.code yX0_kindOf cX0_kindOf 2 (some .int) :: kr_all) ({ frames := 7, cells := 1, slots := 6, locals := 111 }) (va_Pc [.ref h, .int x] (kr_RT D (kr_W0 cy h a N L A) cy)) kr_no (kr_XC (kr_E (kr_cd (kr_i N x) True True))) 1 6 (fun _ => False) := by
  refine kr_ofX (by decide) (Nat.le_of_ble_eq_true rfl) ?_
  intro p e s m below meth c ls hx hb hml hr hts hown hlocks ht hv hl
  obtain ⟨⟨hP, hK⟩, hT⟩ := hv
  have hown : s.vm.findClass RX0 = some m.cls := hown
  have hl : lv_has ls 2 [(0, .ref h), (1, .int x)] := hl
  refine lv_aload_n hx hb dX0_kindOf_0 rfl (lv_at hl 0 rfl) ?_
  refine lv_iload_n hx hb dX0_kindOf_1 rfl (lv_at hl 1 rfl) ?_
  by_cases hk : kr_i N x
  · exact absurd (kr_cd0 hk trivial trivial) hc
  · rw [kr_cd1 hk, kr_E1]
    exact kr_xV (n := 1) (As := [.int x]) (rest := []) ⟨hx, hb, hml, hown, hts⟩ (x_X0_checkKnot l hl0 D cy h a N L A x hk) kg_RX0_59 ⟨rfl, rfl⟩ (by decide +kernel) ⟨Nat.le_of_ble_eq_true rfl, Nat.le_of_ble_eq_true rfl⟩ (kr_pvx hP hK hT (fun _ _ => rfl)) rfl hl.1 rfl (Nat.le_of_ble_eq_true rfl) dX0_kindOf_2 ⟨Nat.le_of_ble_eq_true rfl, Nat.le_of_ble_eq_true rfl⟩ ht hlocks
set_option maxHeartbeats 4000000 in
set_option maxRecDepth 100000 in
theorem x_X0_efficiencyOf (l : Launch) (hl0 : l.stackTraces = false) (D : va_G) (cy : ClassId) (h : Nat) (a : Nat → Nat) (N L : Nat) (A : Nat → Nat → Int32) (x : Int32) (hc : ¬ kr_cd (kr_i N x) True True = 0) : vx_Met l yX0_efficiencyOf (Cond.code yX0_efficiencyOf cX0_efficiencyOf 2 (some .int) :: kr_all) ({ frames := 7, cells := 1, slots := 6, locals := 111 }) (va_Pc [.ref h, .int x] (kr_RT D (kr_W0 cy h a N L A) cy)) kr_no (kr_XC (kr_E (kr_cd (kr_i N x) True True))) 1 6 (fun _ => False) := by
  refine kr_ofX (by decide) (Nat.le_of_ble_eq_true rfl) ?_
  intro p e s m below meth c ls hx hb hml hr hts hown hlocks ht hv hl
  obtain ⟨⟨hP, hK⟩, hT⟩ := hv
  have hown : s.vm.findClass RX0 = some m.cls := hown
  have hl : lv_has ls 2 [(0, .ref h), (1, .int x)] := hl
  refine lv_aload_n hx hb dX0_efficiencyOf_0 rfl (lv_at hl 0 rfl) ?_
  refine lv_iload_n hx hb dX0_efficiencyOf_1 rfl (lv_at hl 1 rfl) ?_
  by_cases hk : kr_i N x
  · exact absurd (kr_cd0 hk trivial trivial) hc
  · rw [kr_cd1 hk, kr_E1]
    exact kr_xV (n := 1) (As := [.int x]) (rest := []) ⟨hx, hb, hml, hown, hts⟩ (x_X0_checkKnot l hl0 D cy h a N L A x hk) kg_RX0_59 ⟨rfl, rfl⟩ (by decide +kernel) ⟨Nat.le_of_ble_eq_true rfl, Nat.le_of_ble_eq_true rfl⟩ (kr_pvx hP hK hT (fun _ _ => rfl)) rfl hl.1 rfl (Nat.le_of_ble_eq_true rfl) dX0_efficiencyOf_2 ⟨Nat.le_of_ble_eq_true rfl, Nat.le_of_ble_eq_true rfl⟩ ht hlocks
set_option maxHeartbeats 4000000 in
set_option maxRecDepth 100000 in
theorem x_X0_crossingsOf (l : Launch) (hl0 : l.stackTraces = false) (D : va_G) (cy : ClassId) (h : Nat) (a : Nat → Nat) (N L : Nat) (A : Nat → Nat → Int32) (x : Int32) (hc : ¬ kr_cd (kr_i N x) True True = 0) : vx_Met l yX0_crossingsOf (Cond.code yX0_crossingsOf cX0_crossingsOf 2 (some .int) :: kr_all) ({ frames := 7, cells := 1, slots := 6, locals := 111 }) (va_Pc [.ref h, .int x] (kr_RT D (kr_W0 cy h a N L A) cy)) kr_no (kr_XC (kr_E (kr_cd (kr_i N x) True True))) 1 6 (fun _ => False) := by
  refine kr_ofX (by decide) (Nat.le_of_ble_eq_true rfl) ?_
  intro p e s m below meth c ls hx hb hml hr hts hown hlocks ht hv hl
  obtain ⟨⟨hP, hK⟩, hT⟩ := hv
  have hown : s.vm.findClass RX0 = some m.cls := hown
  have hl : lv_has ls 2 [(0, .ref h), (1, .int x)] := hl
  refine lv_aload_n hx hb dX0_crossingsOf_0 rfl (lv_at hl 0 rfl) ?_
  refine lv_iload_n hx hb dX0_crossingsOf_1 rfl (lv_at hl 1 rfl) ?_
  by_cases hk : kr_i N x
  · exact absurd (kr_cd0 hk trivial trivial) hc
  · rw [kr_cd1 hk, kr_E1]
    exact kr_xV (n := 1) (As := [.int x]) (rest := []) ⟨hx, hb, hml, hown, hts⟩ (x_X0_checkKnot l hl0 D cy h a N L A x hk) kg_RX0_59 ⟨rfl, rfl⟩ (by decide +kernel) ⟨Nat.le_of_ble_eq_true rfl, Nat.le_of_ble_eq_true rfl⟩ (kr_pvx hP hK hT (fun _ _ => rfl)) rfl hl.1 rfl (Nat.le_of_ble_eq_true rfl) dX0_crossingsOf_2 ⟨Nat.le_of_ble_eq_true rfl, Nat.le_of_ble_eq_true rfl⟩ ht hlocks
set_option maxHeartbeats 4000000 in
set_option maxRecDepth 100000 in
theorem x_X0_spillsAt (l : Launch) (hl0 : l.stackTraces = false) (D : va_G) (cy : ClassId) (h : Nat) (a : Nat → Nat) (N L : Nat) (A : Nat → Nat → Int32) (x : Int32) (hc : ¬ kr_cd (kr_i N x) True True = 0) : vx_Met l yX0_spillsAt (Cond.code yX0_spillsAt cX0_spillsAt 2 (some .int) :: kr_all) ({ frames := 7, cells := 1, slots := 6, locals := 111 }) (va_Pc [.ref h, .int x] (kr_RT D (kr_W0 cy h a N L A) cy)) kr_no (kr_XC (kr_E (kr_cd (kr_i N x) True True))) 1 6 (fun _ => False) := by
  refine kr_ofX (by decide) (Nat.le_of_ble_eq_true rfl) ?_
  intro p e s m below meth c ls hx hb hml hr hts hown hlocks ht hv hl
  obtain ⟨⟨hP, hK⟩, hT⟩ := hv
  have hown : s.vm.findClass RX0 = some m.cls := hown
  have hl : lv_has ls 2 [(0, .ref h), (1, .int x)] := hl
  refine lv_aload_n hx hb dX0_spillsAt_0 rfl (lv_at hl 0 rfl) ?_
  refine lv_iload_n hx hb dX0_spillsAt_1 rfl (lv_at hl 1 rfl) ?_
  by_cases hk : kr_i N x
  · exact absurd (kr_cd0 hk trivial trivial) hc
  · rw [kr_cd1 hk, kr_E1]
    exact kr_xV (n := 1) (As := [.int x]) (rest := []) ⟨hx, hb, hml, hown, hts⟩ (x_X0_checkKnot l hl0 D cy h a N L A x hk) kg_RX0_59 ⟨rfl, rfl⟩ (by decide +kernel) ⟨Nat.le_of_ble_eq_true rfl, Nat.le_of_ble_eq_true rfl⟩ (kr_pvx hP hK hT (fun _ _ => rfl)) rfl hl.1 rfl (Nat.le_of_ble_eq_true rfl) dX0_spillsAt_2 ⟨Nat.le_of_ble_eq_true rfl, Nat.le_of_ble_eq_true rfl⟩ ht hlocks
set_option maxHeartbeats 4000000 in
set_option maxRecDepth 100000 in
theorem x_X0_spillsInto (l : Launch) (hl0 : l.stackTraces = false) (D : va_G) (cy : ClassId) (h : Nat) (a : Nat → Nat) (N L : Nat) (A : Nat → Nat → Int32) (x : Int32) (hc : ¬ kr_cd (kr_i N x) True True = 0) : vx_Met l yX0_spillsInto (Cond.code yX0_spillsInto cX0_spillsInto 2 (some .int) :: kr_all) ({ frames := 7, cells := 1, slots := 6, locals := 111 }) (va_Pc [.ref h, .int x] (kr_RT D (kr_W0 cy h a N L A) cy)) kr_no (kr_XC (kr_E (kr_cd (kr_i N x) True True))) 1 6 (fun _ => False) := by
  refine kr_ofX (by decide) (Nat.le_of_ble_eq_true rfl) ?_
  intro p e s m below meth c ls hx hb hml hr hts hown hlocks ht hv hl
  obtain ⟨⟨hP, hK⟩, hT⟩ := hv
  have hown : s.vm.findClass RX0 = some m.cls := hown
  have hl : lv_has ls 2 [(0, .ref h), (1, .int x)] := hl
  refine lv_aload_n hx hb dX0_spillsInto_0 rfl (lv_at hl 0 rfl) ?_
  refine lv_iload_n hx hb dX0_spillsInto_1 rfl (lv_at hl 1 rfl) ?_
  by_cases hk : kr_i N x
  · exact absurd (kr_cd0 hk trivial trivial) hc
  · rw [kr_cd1 hk, kr_E1]
    exact kr_xV (n := 1) (As := [.int x]) (rest := []) ⟨hx, hb, hml, hown, hts⟩ (x_X0_checkKnot l hl0 D cy h a N L A x hk) kg_RX0_59 ⟨rfl, rfl⟩ (by decide +kernel) ⟨Nat.le_of_ble_eq_true rfl, Nat.le_of_ble_eq_true rfl⟩ (kr_pvx hP hK hT (fun _ _ => rfl)) rfl hl.1 rfl (Nat.le_of_ble_eq_true rfl) dX0_spillsInto_2 ⟨Nat.le_of_ble_eq_true rfl, Nat.le_of_ble_eq_true rfl⟩ ht hlocks
set_option maxHeartbeats 4000000 in
set_option maxRecDepth 100000 in
theorem x_X0_rankOf (l : Launch) (hl0 : l.stackTraces = false) (D : va_G) (cy : ClassId) (h : Nat) (a : Nat → Nat) (N L : Nat) (A : Nat → Nat → Int32) (x : Int32) (hc : ¬ kr_cd (kr_i N x) True True = 0) : vx_Met l yX0_rankOf (Cond.code yX0_rankOf cX0_rankOf 2 (some .int) :: kr_all) ({ frames := 7, cells := 1, slots := 6, locals := 111 }) (va_Pc [.ref h, .int x] (kr_RT D (kr_W0 cy h a N L A) cy)) kr_no (kr_XC (kr_E (kr_cd (kr_i N x) True True))) 1 6 (fun _ => False) := by
  refine kr_ofX (by decide) (Nat.le_of_ble_eq_true rfl) ?_
  intro p e s m below meth c ls hx hb hml hr hts hown hlocks ht hv hl
  obtain ⟨⟨hP, hK⟩, hT⟩ := hv
  have hown : s.vm.findClass RX0 = some m.cls := hown
  have hl : lv_has ls 2 [(0, .ref h), (1, .int x)] := hl
  refine lv_aload_n hx hb dX0_rankOf_0 rfl (lv_at hl 0 rfl) ?_
  refine lv_iload_n hx hb dX0_rankOf_1 rfl (lv_at hl 1 rfl) ?_
  by_cases hk : kr_i N x
  · exact absurd (kr_cd0 hk trivial trivial) hc
  · rw [kr_cd1 hk, kr_E1]
    exact kr_xV (n := 1) (As := [.int x]) (rest := []) ⟨hx, hb, hml, hown, hts⟩ (x_X0_checkKnot l hl0 D cy h a N L A x hk) kg_RX0_59 ⟨rfl, rfl⟩ (by decide +kernel) ⟨Nat.le_of_ble_eq_true rfl, Nat.le_of_ble_eq_true rfl⟩ (kr_pvx hP hK hT (fun _ _ => rfl)) rfl hl.1 rfl (Nat.le_of_ble_eq_true rfl) dX0_rankOf_2 ⟨Nat.le_of_ble_eq_true rfl, Nat.le_of_ble_eq_true rfl⟩ ht hlocks
set_option maxHeartbeats 4000000 in
set_option maxRecDepth 100000 in
theorem x_X0_fallsApartAt (l : Launch) (hl0 : l.stackTraces = false) (D : va_G) (cy : ClassId) (h : Nat) (a : Nat → Nat) (N L : Nat) (A : Nat → Nat → Int32) (x : Int32) (hc : ¬ kr_cd (kr_i N x) True True = 0) : vx_Met l yX0_fallsApartAt (Cond.code yX0_fallsApartAt cX0_fallsApartAt 5 (some .int) :: kr_all) ({ frames := 7, cells := 1, slots := 6, locals := 111 }) (va_Pc [.ref h, .int x] (kr_RT D (kr_W0 cy h a N L A) cy)) kr_no (kr_XC (kr_E (kr_cd (kr_i N x) True True))) 1 6 (fun _ => False) := by
  refine kr_ofX (by decide) (Nat.le_of_ble_eq_true rfl) ?_
  intro p e s m below meth c ls hx hb hml hr hts hown hlocks ht hv hl
  obtain ⟨⟨hP, hK⟩, hT⟩ := hv
  have hown : s.vm.findClass RX0 = some m.cls := hown
  have hl : lv_has ls 5 [(0, .ref h), (1, .int x)] := hl
  refine lv_aload_n hx hb dX0_fallsApartAt_0 rfl (lv_at hl 0 rfl) ?_
  refine lv_iload_n hx hb dX0_fallsApartAt_1 rfl (lv_at hl 1 rfl) ?_
  by_cases hk : kr_i N x
  · exact absurd (kr_cd0 hk trivial trivial) hc
  · rw [kr_cd1 hk, kr_E1]
    exact kr_xV (n := 1) (As := [.int x]) (rest := []) ⟨hx, hb, hml, hown, hts⟩ (x_X0_checkKnot l hl0 D cy h a N L A x hk) kg_RX0_59 ⟨rfl, rfl⟩ (by decide +kernel) ⟨Nat.le_of_ble_eq_true rfl, Nat.le_of_ble_eq_true rfl⟩ (kr_pvx hP hK hT (fun _ _ => rfl)) rfl hl.1 rfl (Nat.le_of_ble_eq_true rfl) dX0_fallsApartAt_2 ⟨Nat.le_of_ble_eq_true rfl, Nat.le_of_ble_eq_true rfl⟩ ht hlocks
set_option maxHeartbeats 4000000 in
set_option maxRecDepth 100000 in
theorem x_X0_knotsOf (l : Launch) (hl0 : l.stackTraces = false) (D : va_G) (cy : ClassId) (h : Nat) (a : Nat → Nat) (N L : Nat) (A : Nat → Nat → Int32) (x : Int32) (hc : ¬ kr_cd (x = 0 ∨ x = 1) True True = 0) : vx_Met l yX0_knotsOf (Cond.code yX0_knotsOf cX0_knotsOf 2 (some .int) :: kr_all) ({ frames := 7, cells := 1, slots := 6, locals := 110 }) (va_Pc [.ref h, .int x] (kr_RT D (kr_W0 cy h a N L A) cy)) kr_no (kr_XC (kr_E (kr_cd (x = 0 ∨ x = 1) True True))) 1 6 (fun _ => False) := by
  refine kr_ofX (by decide) (Nat.le_of_ble_eq_true rfl) ?_
  intro p e s m below meth c ls hx hb hml hr hts hown hlocks ht hv hl
  obtain ⟨⟨hP, hK⟩, hT⟩ := hv
  have hown : s.vm.findClass RX0 = some m.cls := hown
  have hl : lv_has ls 2 [(0, .ref h), (1, .int x)] := hl
  refine lv_iload_n hx hb dX0_knotsOf_0 rfl (lv_at hl 1 rfl) ?_
  by_cases hk : x = 0 ∨ x = 1
  · exact absurd (kr_cd0 hk trivial trivial) hc
  · rw [kr_cd1 hk, kr_E1]
    exact kr_xS (n := 1) (As := [.int x]) (rest := []) ⟨hx, hb, hml, hown, hts⟩ (x_X0_checkKind l hl0 x hk) kg_RX0_41 ⟨rfl, rfl⟩ (by decide +kernel) ⟨Nat.le_of_ble_eq_true rfl, Nat.le_of_ble_eq_true rfl⟩ (kr_psx hT (fun _ _ => rfl)) rfl hl.1 rfl (Nat.le_of_ble_eq_true rfl) dX0_knotsOf_1 ⟨Nat.le_of_ble_eq_true rfl, Nat.le_of_ble_eq_true rfl⟩ ht hlocks
set_option maxHeartbeats 4000000 in
set_option maxRecDepth 100000 in
theorem x_X0_knotAt (l : Launch) (hl0 : l.stackTraces = false) (D : va_G) (cy : ClassId) (h : Nat) (a : Nat → Nat) (N L : Nat) (A : Nat → Nat → Int32) (x y : Int32) (hN : N ≤ 16) (hc : ¬ kr_cd ((x = 0 ∨ x = 1) ∧ ¬ kr_kw A N x y N 0 = -1) True True = 0) : vx_Met l yX0_knotAt (Cond.code yX0_knotAt cX0_knotAt 4 (some .int) :: kr_all) ({ frames := 7, cells := 1, slots := 6, locals := 110 }) (va_Pc [.ref h, .int x, .int y] (kr_RT D (kr_W0 cy h a N L A) cy)) kr_no (kr_XC (kr_E (kr_cd ((x = 0 ∨ x = 1) ∧ ¬ kr_kw A N x y N 0 = -1) True True))) 1 6 (fun _ => False) := by
  refine kr_ofX (by decide) (Nat.le_of_ble_eq_true rfl) ?_
  intro p e s m below meth c ls hx hb hml hr hts hown hlocks ht hv hl
  obtain ⟨⟨hP, hK⟩, hT⟩ := hv
  have hown : s.vm.findClass RX0 = some m.cls := hown
  have hl : lv_has ls 4 [(0, .ref h), (1, .int x), (2, .int y)] := hl
  refine lv_iload_n hx hb dX0_knotAt_0 rfl (lv_at hl 1 rfl) ?_
  by_cases hk : x = 0 ∨ x = 1
  · refine kr_sV (n := 1) (As := [.int x]) (rest := []) ⟨hx, hb, hml, hown, hts⟩ (c_X0_checkKind l x (by assumption)) kg_RX0_41 ⟨rfl, rfl⟩ (by decide +kernel) ⟨Nat.le_of_ble_eq_true rfl, Nat.le_of_ble_eq_true rfl⟩ ⟨kr_blT, fun U hU hW => ⟨rfl, trivial⟩⟩ rfl hl.1 rfl (Nat.le_of_ble_eq_true rfl) dX0_knotAt_1 ⟨Nat.zero_le _, Nat.zero_le _⟩ ?_
    refine lv_aload_n hx hb dX0_knotAt_4 rfl (lv_at hl 0 rfl) ?_
    refine lv_iload_n hx hb dX0_knotAt_5 rfl (lv_at hl 1 rfl) ?_
    refine lv_iload_n hx hb dX0_knotAt_6 rfl (lv_at hl 2 rfl) ?_
    refine kr_vI (n := 2) (As := [.int x, .int y]) (rest := []) ⟨hx, hb, hml, hown, hts⟩ (c_X0_knotWithRank l D cy h a N L A x y (by omega)) kg_RX0_113 ⟨rfl, rfl⟩ (by decide +kernel) ⟨Nat.le_of_ble_eq_true rfl, Nat.le_of_ble_eq_true rfl⟩ (kr_pv0 hP hK) rfl hl.1 rfl (Nat.le_of_ble_eq_true rfl) dX0_knotAt_7 ⟨Nat.zero_le _, Nat.zero_le _⟩ (fun r9 e9 => ?_)
    subst e9
    refine lv_istore_n (lv' := [(3, .int (kr_kw A N x y N 0)), (0, .ref h), (1, .int x), (2, .int y)]) hx hb dX0_knotAt_10 rfl hl (by decide) rfl (fun ls hl => ?_)
    refine lv_iload_n hx hb dX0_knotAt_11 rfl (lv_at hl 0 rfl) ?_
    refine lv_iconst (v := -1) hx hb dX0_knotAt_12 (by decide) ?_
    refine lv_icmp_ne (tgt := 26) hx hb dX0_knotAt_13 (by decide) (fun c13 => ?_) (fun c13 => ?_)
    · exact absurd (kr_cd0 ⟨hk, c13⟩ trivial trivial) hc
    · rw [kr_cd1 (fun z => z.2 c13), kr_E1]
      exact kr_thrI hx hb hl0 hown hts hT (List.mem_of_getElem? (i := 7) rfl) (hl.1.trans hml.symm) dX0_knotAt_16 dX0_knotAt_19 dX0_knotAt_20 dX0_knotAt_22 dX0_knotAt_25 ht ⟨by decide, by decide, by decide, by decide⟩ hlocks
  · rw [kr_cd1 (fun z => hk z.1), kr_E1]
    exact kr_xS (n := 1) (As := [.int x]) (rest := []) ⟨hx, hb, hml, hown, hts⟩ (x_X0_checkKind l hl0 x hk) kg_RX0_41 ⟨rfl, rfl⟩ (by decide +kernel) ⟨Nat.le_of_ble_eq_true rfl, Nat.le_of_ble_eq_true rfl⟩ (kr_psx hT (fun _ _ => rfl)) rfl hl.1 rfl (Nat.le_of_ble_eq_true rfl) dX0_knotAt_1 ⟨Nat.le_of_ble_eq_true rfl, Nat.le_of_ble_eq_true rfl⟩ ht hlocks
set_option maxHeartbeats 4000000 in
set_option maxRecDepth 100000 in
theorem x_X0_formOf (l : Launch) (hl0 : l.stackTraces = false) (D : va_G) (cy : ClassId) (h : Nat) (a : Nat → Nat) (N L : Nat) (A : Nat → Nat → Int32) (x y : Int32) (hN : N ≤ 16) (hc : ¬ kr_cd (kr_i N x) (kr_o y) True = 0) : vx_Met l yX0_formOf (Cond.code yX0_formOf cX0_formOf 3 (some .int) :: kr_all) ({ frames := 7, cells := 1, slots := 6, locals := 111 }) (va_Pc [.ref h, .int x, .int y] (kr_RT D (kr_W0 cy h a N L A) cy)) kr_no (kr_XC (kr_E (kr_cd (kr_i N x) (kr_o y) True))) 1 6 (fun _ => False) := by
  refine kr_ofX (by decide) (Nat.le_of_ble_eq_true rfl) ?_
  intro p e s m below meth c ls hx hb hml hr hts hown hlocks ht hv hl
  obtain ⟨⟨hP, hK⟩, hT⟩ := hv
  have hown : s.vm.findClass RX0 = some m.cls := hown
  have hl : lv_has ls 3 [(0, .ref h), (1, .int x), (2, .int y)] := hl
  refine lv_aload_n hx hb dX0_formOf_0 rfl (lv_at hl 0 rfl) ?_
  refine lv_iload_n hx hb dX0_formOf_1 rfl (lv_at hl 1 rfl) ?_
  by_cases hk : kr_i N x
  · obtain ⟨k, hk2, rfl⟩ := kr_inN hN hk
    refine kr_vV (n := 1) (As := [.int (nI k)]) (rest := []) ⟨hx, hb, hml, hown, hts⟩ (c_X0_checkKnot l D cy h a N L A k (by omega) (by omega)) kg_RX0_59 ⟨rfl, rfl⟩ (by decide +kernel) ⟨Nat.le_of_ble_eq_true rfl, Nat.le_of_ble_eq_true rfl⟩ (kr_pv0 hP hK) rfl hl.1 rfl (Nat.le_of_ble_eq_true rfl) dX0_formOf_2 ⟨Nat.zero_le _, Nat.zero_le _⟩ ?_
    refine lv_iload_n hx hb dX0_formOf_5 rfl (lv_at hl 2 rfl) ?_
    by_cases ho : kr_o y
    · exact absurd (kr_cd0 hk ho trivial) hc
    · rw [kr_cd2 hk ho, kr_E2]
      exact kr_xS (n := 1) (As := [.int y]) (rest := []) ⟨hx, hb, hml, hown, hts⟩ (x_X0_checkLoad l hl0 y ho) kg_RX0_62 ⟨rfl, rfl⟩ (by decide +kernel) ⟨Nat.le_of_ble_eq_true rfl, Nat.le_of_ble_eq_true rfl⟩ (kr_psx hT (fun _ _ => rfl)) rfl hl.1 rfl (Nat.le_of_ble_eq_true rfl) dX0_formOf_6 ⟨Nat.le_of_ble_eq_true rfl, Nat.le_of_ble_eq_true rfl⟩ ht hlocks
  · rw [kr_cd1 hk, kr_E1]
    exact kr_xV (n := 1) (As := [.int x]) (rest := []) ⟨hx, hb, hml, hown, hts⟩ (x_X0_checkKnot l hl0 D cy h a N L A x hk) kg_RX0_59 ⟨rfl, rfl⟩ (by decide +kernel) ⟨Nat.le_of_ble_eq_true rfl, Nat.le_of_ble_eq_true rfl⟩ (kr_pvx hP hK hT (fun _ _ => rfl)) rfl hl.1 rfl (Nat.le_of_ble_eq_true rfl) dX0_formOf_2 ⟨Nat.le_of_ble_eq_true rfl, Nat.le_of_ble_eq_true rfl⟩ ht hlocks
set_option maxHeartbeats 4000000 in
set_option maxRecDepth 100000 in
theorem x_X0_spills (l : Launch) (hl0 : l.stackTraces = false) (D : va_G) (cy : ClassId) (h : Nat) (a : Nat → Nat) (N L : Nat) (A : Nat → Nat → Int32) (x y : Int32) (hN : N ≤ 16) (hc : ¬ kr_cd (kr_i N x) (kr_o y) True = 0) : vx_Met l yX0_spills (Cond.code yX0_spills cX0_spills 5 (some .int) :: kr_all) ({ frames := 7, cells := 1, slots := 6, locals := 111 }) (va_Pc [.ref h, .int x, .int y] (kr_RT D (kr_W0 cy h a N L A) cy)) kr_no (kr_XC (kr_E (kr_cd (kr_i N x) (kr_o y) True))) 1 6 (fun _ => False) := by
  refine kr_ofX (by decide) (Nat.le_of_ble_eq_true rfl) ?_
  intro p e s m below meth c ls hx hb hml hr hts hown hlocks ht hv hl
  obtain ⟨⟨hP, hK⟩, hT⟩ := hv
  have hown : s.vm.findClass RX0 = some m.cls := hown
  have hl : lv_has ls 5 [(0, .ref h), (1, .int x), (2, .int y)] := hl
  refine lv_aload_n hx hb dX0_spills_0 rfl (lv_at hl 0 rfl) ?_
  refine lv_iload_n hx hb dX0_spills_1 rfl (lv_at hl 1 rfl) ?_
  by_cases hk : kr_i N x
  · obtain ⟨k, hk2, rfl⟩ := kr_inN hN hk
    refine kr_vV (n := 1) (As := [.int (nI k)]) (rest := []) ⟨hx, hb, hml, hown, hts⟩ (c_X0_checkKnot l D cy h a N L A k (by omega) (by omega)) kg_RX0_59 ⟨rfl, rfl⟩ (by decide +kernel) ⟨Nat.le_of_ble_eq_true rfl, Nat.le_of_ble_eq_true rfl⟩ (kr_pv0 hP hK) rfl hl.1 rfl (Nat.le_of_ble_eq_true rfl) dX0_spills_2 ⟨Nat.zero_le _, Nat.zero_le _⟩ ?_
    refine lv_iload_n hx hb dX0_spills_5 rfl (lv_at hl 2 rfl) ?_
    by_cases ho : kr_o y
    · exact absurd (kr_cd0 hk ho trivial) hc
    · rw [kr_cd2 hk ho, kr_E2]
      exact kr_xS (n := 1) (As := [.int y]) (rest := []) ⟨hx, hb, hml, hown, hts⟩ (x_X0_checkLoad l hl0 y ho) kg_RX0_62 ⟨rfl, rfl⟩ (by decide +kernel) ⟨Nat.le_of_ble_eq_true rfl, Nat.le_of_ble_eq_true rfl⟩ (kr_psx hT (fun _ _ => rfl)) rfl hl.1 rfl (Nat.le_of_ble_eq_true rfl) dX0_spills_6 ⟨Nat.le_of_ble_eq_true rfl, Nat.le_of_ble_eq_true rfl⟩ ht hlocks
  · rw [kr_cd1 hk, kr_E1]
    exact kr_xV (n := 1) (As := [.int x]) (rest := []) ⟨hx, hb, hml, hown, hts⟩ (x_X0_checkKnot l hl0 D cy h a N L A x hk) kg_RX0_59 ⟨rfl, rfl⟩ (by decide +kernel) ⟨Nat.le_of_ble_eq_true rfl, Nat.le_of_ble_eq_true rfl⟩ (kr_pvx hP hK hT (fun _ _ => rfl)) rfl hl.1 rfl (Nat.le_of_ble_eq_true rfl) dX0_spills_2 ⟨Nat.le_of_ble_eq_true rfl, Nat.le_of_ble_eq_true rfl⟩ ht hlocks
set_option maxHeartbeats 4000000 in
set_option maxRecDepth 100000 in
theorem x_X0_ropesOf (l : Launch) (hl0 : l.stackTraces = false) (D : va_G) (cy : ClassId) (h : Nat) (a : Nat → Nat) (N L : Nat) (A : Nat → Nat → Int32) (x : Int32) (hc : ¬ kr_cd (kr_i L x) True True = 0) : vx_Met l yX0_ropesOf (Cond.code yX0_ropesOf cX0_ropesOf 2 (some .int) :: kr_all) ({ frames := 7, cells := 1, slots := 6, locals := 111 }) (va_Pc [.ref h, .int x] (kr_RT D (kr_W0 cy h a N L A) cy)) kr_no (kr_XC (kr_E (kr_cd (kr_i L x) True True))) 1 6 (fun _ => False) := by
  refine kr_ofX (by decide) (Nat.le_of_ble_eq_true rfl) ?_
  intro p e s m below meth c ls hx hb hml hr hts hown hlocks ht hv hl
  obtain ⟨⟨hP, hK⟩, hT⟩ := hv
  have hown : s.vm.findClass RX0 = some m.cls := hown
  have hl : lv_has ls 2 [(0, .ref h), (1, .int x)] := hl
  refine lv_aload_n hx hb dX0_ropesOf_0 rfl (lv_at hl 0 rfl) ?_
  refine lv_iload_n hx hb dX0_ropesOf_1 rfl (lv_at hl 1 rfl) ?_
  by_cases hk : kr_i L x
  · exact absurd (kr_cd0 hk trivial trivial) hc
  · rw [kr_cd1 hk, kr_E1]
    exact kr_xV (n := 1) (As := [.int x]) (rest := []) ⟨hx, hb, hml, hown, hts⟩ (x_X0_checkLine l hl0 D cy h a N L A x hk) kg_RX0_82 ⟨rfl, rfl⟩ (by decide +kernel) ⟨Nat.le_of_ble_eq_true rfl, Nat.le_of_ble_eq_true rfl⟩ (kr_pvx hP hK hT (fun _ _ => rfl)) rfl hl.1 rfl (Nat.le_of_ble_eq_true rfl) dX0_ropesOf_2 ⟨Nat.le_of_ble_eq_true rfl, Nat.le_of_ble_eq_true rfl⟩ ht hlocks
set_option maxHeartbeats 4000000 in
set_option maxRecDepth 100000 in
theorem x_X0_weakestPlace (l : Launch) (hl0 : l.stackTraces = false) (D : va_G) (cy : ClassId) (h : Nat) (a : Nat → Nat) (N L : Nat) (A : Nat → Nat → Int32) (x : Int32) (hc : ¬ kr_cd (kr_i L x) True True = 0) : vx_Met l yX0_weakestPlace (Cond.code yX0_weakestPlace cX0_weakestPlace 6 (some .int) :: kr_all) ({ frames := 7, cells := 1, slots := 6, locals := 111 }) (va_Pc [.ref h, .int x] (kr_RT D (kr_W0 cy h a N L A) cy)) kr_no (kr_XC (kr_E (kr_cd (kr_i L x) True True))) 1 6 (fun _ => False) := by
  refine kr_ofX (by decide) (Nat.le_of_ble_eq_true rfl) ?_
  intro p e s m below meth c ls hx hb hml hr hts hown hlocks ht hv hl
  obtain ⟨⟨hP, hK⟩, hT⟩ := hv
  have hown : s.vm.findClass RX0 = some m.cls := hown
  have hl : lv_has ls 6 [(0, .ref h), (1, .int x)] := hl
  refine lv_aload_n hx hb dX0_weakestPlace_0 rfl (lv_at hl 0 rfl) ?_
  refine lv_iload_n hx hb dX0_weakestPlace_1 rfl (lv_at hl 1 rfl) ?_
  by_cases hk : kr_i L x
  · exact absurd (kr_cd0 hk trivial trivial) hc
  · rw [kr_cd1 hk, kr_E1]
    exact kr_xV (n := 1) (As := [.int x]) (rest := []) ⟨hx, hb, hml, hown, hts⟩ (x_X0_checkLine l hl0 D cy h a N L A x hk) kg_RX0_82 ⟨rfl, rfl⟩ (by decide +kernel) ⟨Nat.le_of_ble_eq_true rfl, Nat.le_of_ble_eq_true rfl⟩ (kr_pvx hP hK hT (fun _ _ => rfl)) rfl hl.1 rfl (Nat.le_of_ble_eq_true rfl) dX0_weakestPlace_2 ⟨Nat.le_of_ble_eq_true rfl, Nat.le_of_ble_eq_true rfl⟩ ht hlocks
set_option maxHeartbeats 4000000 in
set_option maxRecDepth 100000 in
theorem x_X0_holdsUpTo (l : Launch) (hl0 : l.stackTraces = false) (D : va_G) (cy : ClassId) (h : Nat) (a : Nat → Nat) (N L : Nat) (A : Nat → Nat → Int32) (x : Int32) (hc : ¬ kr_cd (kr_i L x) True True = 0) : vx_Met l yX0_holdsUpTo (Cond.code yX0_holdsUpTo cX0_holdsUpTo 2 (some .int) :: kr_all) ({ frames := 7, cells := 1, slots := 6, locals := 111 }) (va_Pc [.ref h, .int x] (kr_RT D (kr_W0 cy h a N L A) cy)) kr_no (kr_XC (kr_E (kr_cd (kr_i L x) True True))) 1 6 (fun _ => False) := by
  refine kr_ofX (by decide) (Nat.le_of_ble_eq_true rfl) ?_
  intro p e s m below meth c ls hx hb hml hr hts hown hlocks ht hv hl
  obtain ⟨⟨hP, hK⟩, hT⟩ := hv
  have hown : s.vm.findClass RX0 = some m.cls := hown
  have hl : lv_has ls 2 [(0, .ref h), (1, .int x)] := hl
  refine lv_aload_n hx hb dX0_holdsUpTo_0 rfl (lv_at hl 0 rfl) ?_
  refine lv_iload_n hx hb dX0_holdsUpTo_1 rfl (lv_at hl 1 rfl) ?_
  by_cases hk : kr_i L x
  · exact absurd (kr_cd0 hk trivial trivial) hc
  · rw [kr_cd1 hk, kr_E1]
    exact kr_xV (n := 1) (As := [.int x]) (rest := []) ⟨hx, hb, hml, hown, hts⟩ (x_X0_checkLine l hl0 D cy h a N L A x hk) kg_RX0_82 ⟨rfl, rfl⟩ (by decide +kernel) ⟨Nat.le_of_ble_eq_true rfl, Nat.le_of_ble_eq_true rfl⟩ (kr_pvx hP hK hT (fun _ _ => rfl)) rfl hl.1 rfl (Nat.le_of_ble_eq_true rfl) dX0_holdsUpTo_2 ⟨Nat.le_of_ble_eq_true rfl, Nat.le_of_ble_eq_true rfl⟩ ht hlocks
set_option maxHeartbeats 4000000 in
set_option maxRecDepth 100000 in
theorem x_X0_knotOf (l : Launch) (hl0 : l.stackTraces = false) (D : va_G) (cy : ClassId) (h : Nat) (a : Nat → Nat) (N L : Nat) (A : Nat → Nat → Int32) (x y : Int32) (hw : kr_wf N L A) (hc : ¬ kr_cd (kr_q L A x y) True True = 0) : vx_Met l yX0_knotOf (Cond.code yX0_knotOf cX0_knotOf 3 (some .int) :: kr_all) ({ frames := 8, cells := 1, slots := 6, locals := 133 }) (va_Pc [.ref h, .int x, .int y] (kr_RT D (kr_W0 cy h a N L A) cy)) kr_no (kr_XC (kr_E (kr_cd (kr_q L A x y) True True))) 1 6 (fun _ => False) := by
  refine kr_ofX (by decide) (Nat.le_of_ble_eq_true rfl) ?_
  intro p e s m below meth c ls hx hb hml hr hts hown hlocks ht hv hl
  obtain ⟨⟨hP, hK⟩, hT⟩ := hv
  have hown : s.vm.findClass RX0 = some m.cls := hown
  have hl : lv_has ls 3 [(0, .ref h), (1, .int x), (2, .int y)] := hl
  refine lv_aload_n hx hb dX0_knotOf_0 rfl (lv_at hl 0 rfl) ?_
  refine lv_iload_n hx hb dX0_knotOf_1 rfl (lv_at hl 1 rfl) ?_
  refine lv_iload_n hx hb dX0_knotOf_2 rfl (lv_at hl 2 rfl) ?_
  by_cases hk : kr_q L A x y
  · exact absurd (kr_cd0 hk trivial trivial) hc
  · rw [kr_cd1 hk, kr_E1]
    exact kr_xV (n := 2) (As := [.int x, .int y]) (rest := []) ⟨hx, hb, hml, hown, hts⟩ (x_X0_checkPlace l hl0 D cy h a N L A x y hw hk) kg_RX0_90 ⟨rfl, rfl⟩ (by decide +kernel) ⟨Nat.le_of_ble_eq_true rfl, Nat.le_of_ble_eq_true rfl⟩ (kr_pvx hP hK hT (fun _ _ => rfl)) rfl hl.1 rfl (Nat.le_of_ble_eq_true rfl) dX0_knotOf_3 ⟨Nat.le_of_ble_eq_true rfl, Nat.le_of_ble_eq_true rfl⟩ ht hlocks
set_option maxHeartbeats 4000000 in
set_option maxRecDepth 100000 in
theorem x_X0_strengthAt (l : Launch) (hl0 : l.stackTraces = false) (D : va_G) (cy : ClassId) (h : Nat) (a : Nat → Nat) (N L : Nat) (A : Nat → Nat → Int32) (x y : Int32) (hw : kr_wf N L A) (hc : ¬ kr_cd (kr_q L A x y) True True = 0) : vx_Met l yX0_strengthAt (Cond.code yX0_strengthAt cX0_strengthAt 3 (some .int) :: kr_all) ({ frames := 8, cells := 1, slots := 6, locals := 133 }) (va_Pc [.ref h, .int x, .int y] (kr_RT D (kr_W0 cy h a N L A) cy)) kr_no (kr_XC (kr_E (kr_cd (kr_q L A x y) True True))) 1 6 (fun _ => False) := by
  refine kr_ofX (by decide) (Nat.le_of_ble_eq_true rfl) ?_
  intro p e s m below meth c ls hx hb hml hr hts hown hlocks ht hv hl
  obtain ⟨⟨hP, hK⟩, hT⟩ := hv
  have hown : s.vm.findClass RX0 = some m.cls := hown
  have hl : lv_has ls 3 [(0, .ref h), (1, .int x), (2, .int y)] := hl
  refine lv_aload_n hx hb dX0_strengthAt_0 rfl (lv_at hl 0 rfl) ?_
  refine lv_iload_n hx hb dX0_strengthAt_1 rfl (lv_at hl 1 rfl) ?_
  refine lv_iload_n hx hb dX0_strengthAt_2 rfl (lv_at hl 2 rfl) ?_
  by_cases hk : kr_q L A x y
  · exact absurd (kr_cd0 hk trivial trivial) hc
  · rw [kr_cd1 hk, kr_E1]
    exact kr_xV (n := 2) (As := [.int x, .int y]) (rest := []) ⟨hx, hb, hml, hown, hts⟩ (x_X0_checkPlace l hl0 D cy h a N L A x y hw hk) kg_RX0_90 ⟨rfl, rfl⟩ (by decide +kernel) ⟨Nat.le_of_ble_eq_true rfl, Nat.le_of_ble_eq_true rfl⟩ (kr_pvx hP hK hT (fun _ _ => rfl)) rfl hl.1 rfl (Nat.le_of_ble_eq_true rfl) dX0_strengthAt_3 ⟨Nat.le_of_ble_eq_true rfl, Nat.le_of_ble_eq_true rfl⟩ ht hlocks
set_option maxHeartbeats 4000000 in
set_option maxRecDepth 100000 in
theorem x_X0_bestKnot (l : Launch) (hl0 : l.stackTraces = false) (D : va_G) (cy : ClassId) (h : Nat) (a : Nat → Nat) (N L : Nat) (A : Nat → Nat → Int32) (x y : Int32) (hw : kr_wf N L A) (hc : ¬ kr_cd (kr_q L A x y) True True = 0) : vx_Met l yX0_bestKnot (Cond.code yX0_bestKnot cX0_bestKnot 10 (some .int) :: kr_all) ({ frames := 8, cells := 1, slots := 6, locals := 133 }) (va_Pc [.ref h, .int x, .int y] (kr_RT D (kr_W0 cy h a N L A) cy)) kr_no (kr_XC (kr_E (kr_cd (kr_q L A x y) True True))) 1 6 (fun _ => False) := by
  refine kr_ofX (by decide) (Nat.le_of_ble_eq_true rfl) ?_
  intro p e s m below meth c ls hx hb hml hr hts hown hlocks ht hv hl
  obtain ⟨⟨hP, hK⟩, hT⟩ := hv
  have hown : s.vm.findClass RX0 = some m.cls := hown
  have hl : lv_has ls 10 [(0, .ref h), (1, .int x), (2, .int y)] := hl
  refine lv_aload_n hx hb dX0_bestKnot_0 rfl (lv_at hl 0 rfl) ?_
  refine lv_iload_n hx hb dX0_bestKnot_1 rfl (lv_at hl 1 rfl) ?_
  refine lv_iload_n hx hb dX0_bestKnot_2 rfl (lv_at hl 2 rfl) ?_
  by_cases hk : kr_q L A x y
  · exact absurd (kr_cd0 hk trivial trivial) hc
  · rw [kr_cd1 hk, kr_E1]
    exact kr_xV (n := 2) (As := [.int x, .int y]) (rest := []) ⟨hx, hb, hml, hown, hts⟩ (x_X0_checkPlace l hl0 D cy h a N L A x y hw hk) kg_RX0_90 ⟨rfl, rfl⟩ (by decide +kernel) ⟨Nat.le_of_ble_eq_true rfl, Nat.le_of_ble_eq_true rfl⟩ (kr_pvx hP hK hT (fun _ _ => rfl)) rfl hl.1 rfl (Nat.le_of_ble_eq_true rfl) dX0_bestKnot_3 ⟨Nat.le_of_ble_eq_true rfl, Nat.le_of_ble_eq_true rfl⟩ ht hlocks
set_option maxHeartbeats 4000000 in
set_option maxRecDepth 100000 in
theorem x_X0_holds (l : Launch) (hl0 : l.stackTraces = false) (D : va_G) (cy : ClassId) (h : Nat) (a : Nat → Nat) (N L : Nat) (A : Nat → Nat → Int32) (x y : Int32) (hL : L ≤ 6) (hc : ¬ kr_cd (kr_i L x) (kr_o y) True = 0) : vx_Met l yX0_holds (Cond.code yX0_holds cX0_holds 3 (some .boolean) :: kr_all) ({ frames := 7, cells := 1, slots := 6, locals := 111 }) (va_Pc [.ref h, .int x, .int y] (kr_RT D (kr_W0 cy h a N L A) cy)) kr_no (kr_XC (kr_E (kr_cd (kr_i L x) (kr_o y) True))) 1 6 (fun _ => False) := by
  refine kr_ofX (by decide) (Nat.le_of_ble_eq_true rfl) ?_
  intro p e s m below meth c ls hx hb hml hr hts hown hlocks ht hv hl
  obtain ⟨⟨hP, hK⟩, hT⟩ := hv
  have hown : s.vm.findClass RX0 = some m.cls := hown
  have hl : lv_has ls 3 [(0, .ref h), (1, .int x), (2, .int y)] := hl
  refine lv_aload_n hx hb dX0_holds_0 rfl (lv_at hl 0 rfl) ?_
  refine lv_iload_n hx hb dX0_holds_1 rfl (lv_at hl 1 rfl) ?_
  by_cases hk : kr_i L x
  · obtain ⟨q, hq, rfl⟩ := kr_inL hL hk
    refine kr_vV (n := 1) (As := [.int (nI q)]) (rest := []) ⟨hx, hb, hml, hown, hts⟩ (c_X0_checkLine l D cy h a N L A q (by omega) (by omega)) kg_RX0_82 ⟨rfl, rfl⟩ (by decide +kernel) ⟨Nat.le_of_ble_eq_true rfl, Nat.le_of_ble_eq_true rfl⟩ (kr_pv0 hP hK) rfl hl.1 rfl (Nat.le_of_ble_eq_true rfl) dX0_holds_2 ⟨Nat.zero_le _, Nat.zero_le _⟩ ?_
    refine lv_iload_n hx hb dX0_holds_5 rfl (lv_at hl 2 rfl) ?_
    by_cases ho : kr_o y
    · exact absurd (kr_cd0 hk ho trivial) hc
    · rw [kr_cd2 hk ho, kr_E2]
      exact kr_xS (n := 1) (As := [.int y]) (rest := []) ⟨hx, hb, hml, hown, hts⟩ (x_X0_checkLoad l hl0 y ho) kg_RX0_62 ⟨rfl, rfl⟩ (by decide +kernel) ⟨Nat.le_of_ble_eq_true rfl, Nat.le_of_ble_eq_true rfl⟩ (kr_psx hT (fun _ _ => rfl)) rfl hl.1 rfl (Nat.le_of_ble_eq_true rfl) dX0_holds_6 ⟨Nat.le_of_ble_eq_true rfl, Nat.le_of_ble_eq_true rfl⟩ ht hlocks
  · rw [kr_cd1 hk, kr_E1]
    exact kr_xV (n := 1) (As := [.int x]) (rest := []) ⟨hx, hb, hml, hown, hts⟩ (x_X0_checkLine l hl0 D cy h a N L A x hk) kg_RX0_82 ⟨rfl, rfl⟩ (by decide +kernel) ⟨Nat.le_of_ble_eq_true rfl, Nat.le_of_ble_eq_true rfl⟩ (kr_pvx hP hK hT (fun _ _ => rfl)) rfl hl.1 rfl (Nat.le_of_ble_eq_true rfl) dX0_holds_2 ⟨Nat.le_of_ble_eq_true rfl, Nat.le_of_ble_eq_true rfl⟩ ht hlocks
set_option maxHeartbeats 4000000 in
set_option maxRecDepth 100000 in
theorem x_X0_wouldGiveWay (l : Launch) (hl0 : l.stackTraces = false) (D : va_G) (cy : ClassId) (h : Nat) (a : Nat → Nat) (N L : Nat) (A : Nat → Nat → Int32) (x y : Int32) (hL : L ≤ 6) (hc : ¬ kr_cd (kr_i L x) (kr_o y) True = 0) : vx_Met l yX0_wouldGiveWay (Cond.code yX0_wouldGiveWay cX0_wouldGiveWay 3 (some .int) :: kr_all) ({ frames := 7, cells := 1, slots := 6, locals := 111 }) (va_Pc [.ref h, .int x, .int y] (kr_RT D (kr_W0 cy h a N L A) cy)) kr_no (kr_XC (kr_E (kr_cd (kr_i L x) (kr_o y) True))) 1 6 (fun _ => False) := by
  refine kr_ofX (by decide) (Nat.le_of_ble_eq_true rfl) ?_
  intro p e s m below meth c ls hx hb hml hr hts hown hlocks ht hv hl
  obtain ⟨⟨hP, hK⟩, hT⟩ := hv
  have hown : s.vm.findClass RX0 = some m.cls := hown
  have hl : lv_has ls 3 [(0, .ref h), (1, .int x), (2, .int y)] := hl
  refine lv_aload_n hx hb dX0_wouldGiveWay_0 rfl (lv_at hl 0 rfl) ?_
  refine lv_iload_n hx hb dX0_wouldGiveWay_1 rfl (lv_at hl 1 rfl) ?_
  by_cases hk : kr_i L x
  · obtain ⟨q, hq, rfl⟩ := kr_inL hL hk
    refine kr_vV (n := 1) (As := [.int (nI q)]) (rest := []) ⟨hx, hb, hml, hown, hts⟩ (c_X0_checkLine l D cy h a N L A q (by omega) (by omega)) kg_RX0_82 ⟨rfl, rfl⟩ (by decide +kernel) ⟨Nat.le_of_ble_eq_true rfl, Nat.le_of_ble_eq_true rfl⟩ (kr_pv0 hP hK) rfl hl.1 rfl (Nat.le_of_ble_eq_true rfl) dX0_wouldGiveWay_2 ⟨Nat.zero_le _, Nat.zero_le _⟩ ?_
    refine lv_iload_n hx hb dX0_wouldGiveWay_5 rfl (lv_at hl 2 rfl) ?_
    by_cases ho : kr_o y
    · exact absurd (kr_cd0 hk ho trivial) hc
    · rw [kr_cd2 hk ho, kr_E2]
      exact kr_xS (n := 1) (As := [.int y]) (rest := []) ⟨hx, hb, hml, hown, hts⟩ (x_X0_checkLoad l hl0 y ho) kg_RX0_62 ⟨rfl, rfl⟩ (by decide +kernel) ⟨Nat.le_of_ble_eq_true rfl, Nat.le_of_ble_eq_true rfl⟩ (kr_psx hT (fun _ _ => rfl)) rfl hl.1 rfl (Nat.le_of_ble_eq_true rfl) dX0_wouldGiveWay_6 ⟨Nat.le_of_ble_eq_true rfl, Nat.le_of_ble_eq_true rfl⟩ ht hlocks
  · rw [kr_cd1 hk, kr_E1]
    exact kr_xV (n := 1) (As := [.int x]) (rest := []) ⟨hx, hb, hml, hown, hts⟩ (x_X0_checkLine l hl0 D cy h a N L A x hk) kg_RX0_82 ⟨rfl, rfl⟩ (by decide +kernel) ⟨Nat.le_of_ble_eq_true rfl, Nat.le_of_ble_eq_true rfl⟩ (kr_pvx hP hK hT (fun _ _ => rfl)) rfl hl.1 rfl (Nat.le_of_ble_eq_true rfl) dX0_wouldGiveWay_2 ⟨Nat.le_of_ble_eq_true rfl, Nat.le_of_ble_eq_true rfl⟩ ht hlocks
set_option maxHeartbeats 4000000 in
set_option maxRecDepth 100000 in
theorem x_X0_addKnot (l : Launch) (hl0 : l.stackTraces = false) (D : va_G) (cy : ClassId) (h : Nat) (a : Nat → Nat) (N L : Nat) (A : Nat → Nat → Int32) (x y z : Int32) (hN : N ≤ 16) (hc : ¬ kr_cd (x = 0 ∨ x = 1) ((¬ y < 10 ∧ ¬ 100 < y) ∧ (¬ z < 1 ∧ ¬ 9 < z)) (N < 16) = 0) : vx_Met l yX0_addKnot (Cond.code yX0_addKnot cX0_addKnot 5 (some .int) :: kr_all) ({ frames := 7, cells := 1, slots := 6, locals := 110 }) (va_Pc [.ref h, .int x, .int y, .int z] (kr_RT D (kr_W0 cy h a N L A) cy)) kr_no (kr_XC (kr_E (kr_cd (x = 0 ∨ x = 1) ((¬ y < 10 ∧ ¬ 100 < y) ∧ (¬ z < 1 ∧ ¬ 9 < z)) (N < 16)))) 1 6 (fun _ => False) := by
  refine kr_ofX (by decide) (Nat.le_of_ble_eq_true rfl) ?_
  intro p e s m below meth c ls hx hb hml hr hts hown hlocks ht hv hl
  obtain ⟨⟨hP, hK⟩, hT⟩ := hv
  have hown : s.vm.findClass RX0 = some m.cls := hown
  have hl : lv_has ls 5 [(0, .ref h), (1, .int x), (2, .int y), (3, .int z)] := hl
  refine lv_iload_n hx hb dX0_addKnot_0 rfl (lv_at hl 1 rfl) ?_
  by_cases hk : x = 0 ∨ x = 1
  · refine kr_sV (n := 1) (As := [.int x]) (rest := []) ⟨hx, hb, hml, hown, hts⟩ (c_X0_checkKind l x (by assumption)) kg_RX0_41 ⟨rfl, rfl⟩ (by decide +kernel) ⟨Nat.le_of_ble_eq_true rfl, Nat.le_of_ble_eq_true rfl⟩ ⟨kr_blT, fun U hU hW => ⟨rfl, trivial⟩⟩ rfl hl.1 rfl (Nat.le_of_ble_eq_true rfl) dX0_addKnot_1 ⟨Nat.zero_le _, Nat.zero_le _⟩ ?_
    refine lv_iload_n hx hb dX0_addKnot_4 rfl (lv_at hl 2 rfl) ?_
    refine lv_bipush (v := 10) hx hb dX0_addKnot_5 (by decide) ?_
    refine lv_icmp_lt (tgt := 16) hx hb dX0_addKnot_7 (by decide) (fun c7 => ?_) (fun c7 => ?_)
    · rw [kr_cd2 hk (fun w => w.1.1 c7), kr_E2]
      exact kr_thrA hx hb hl0 hown hts hT (List.mem_of_getElem? (i := 0) rfl) (hl.1.trans hml.symm) dX0_addKnot_16 dX0_addKnot_19 dX0_addKnot_20 dX0_addKnot_22 dX0_addKnot_25 ht ⟨by decide, by decide, by decide, by decide⟩ hlocks
    · refine lv_iload_n hx hb dX0_addKnot_10 rfl (lv_at hl 2 rfl) ?_
      refine lv_bipush (v := 100) hx hb dX0_addKnot_11 (by decide) ?_
      refine lv_icmp_le (tgt := 26) hx hb dX0_addKnot_13 (by decide) (fun c13 => ?_) (fun c13 => ?_)
      · refine lv_iload_n hx hb dX0_addKnot_26 rfl (lv_at hl 3 rfl) ?_
        refine lv_iconst (v := 1) hx hb dX0_addKnot_27 (by decide) ?_
        refine lv_icmp_lt (tgt := 37) hx hb dX0_addKnot_28 (by decide) (fun c28 => ?_) (fun c28 => ?_)
        · rw [kr_cd2 hk (fun w => w.2.1 c28), kr_E2]
          exact kr_thrA hx hb hl0 hown hts hT (List.mem_of_getElem? (i := 1) rfl) (hl.1.trans hml.symm) dX0_addKnot_37 dX0_addKnot_40 dX0_addKnot_41 dX0_addKnot_43 dX0_addKnot_46 ht ⟨by decide, by decide, by decide, by decide⟩ hlocks
        · refine lv_iload_n hx hb dX0_addKnot_31 rfl (lv_at hl 3 rfl) ?_
          refine lv_bipush (v := 9) hx hb dX0_addKnot_32 (by decide) ?_
          refine lv_icmp_le (tgt := 47) hx hb dX0_addKnot_34 (by decide) (fun c34 => ?_) (fun c34 => ?_)
          · refine lv_aload_n hx hb dX0_addKnot_47 rfl (lv_at hl 0 rfl) ?_
            refine va_get (ci := 0) (v := .int (nI N)) (C := RX0) (T := TX0) (N := 10) hx hb hts kr_wsX0 hown hK hP 0 rfl rfl 5 (by decide) (hts _ kq_47) (fun _ h9 => h9) rfl dX0_addKnot_48 ?_
            refine lv_bipush (v := 16) hx hb dX0_addKnot_51 (by decide) ?_
            refine lv_icmp_lt (tgt := 66) hx hb dX0_addKnot_53 (by decide) (fun c53 => ?_) (fun c53 => ?_)
            · exact absurd (kr_cd0 hk ⟨⟨c7, kr_ngt2 c13⟩, ⟨c28, kr_ngt2 c34⟩⟩ ((nI_ltI (b := 16) (by omega) (by decide)).mp c53)) hc
            · rw [kr_cd3 hk ⟨⟨c7, kr_ngt2 c13⟩, ⟨c28, kr_ngt2 c34⟩⟩ (fun w => c53 (nI_lt (b := 16) w (by decide))), kr_E3]
              exact kr_thrS hx hb hl0 hown hts hT (List.mem_of_getElem? (i := 2) rfl) (hl.1.trans hml.symm) dX0_addKnot_56 dX0_addKnot_59 dX0_addKnot_60 dX0_addKnot_62 dX0_addKnot_65 ht ⟨by decide, by decide, by decide, by decide⟩ hlocks
          · rw [kr_cd2 hk (fun w => w.2.2 (kr_nle2 c34)), kr_E2]
            exact kr_thrA hx hb hl0 hown hts hT (List.mem_of_getElem? (i := 1) rfl) (hl.1.trans hml.symm) dX0_addKnot_37 dX0_addKnot_40 dX0_addKnot_41 dX0_addKnot_43 dX0_addKnot_46 ht ⟨by decide, by decide, by decide, by decide⟩ hlocks
      · rw [kr_cd2 hk (fun w => w.1.2 (kr_nle2 c13)), kr_E2]
        exact kr_thrA hx hb hl0 hown hts hT (List.mem_of_getElem? (i := 0) rfl) (hl.1.trans hml.symm) dX0_addKnot_16 dX0_addKnot_19 dX0_addKnot_20 dX0_addKnot_22 dX0_addKnot_25 ht ⟨by decide, by decide, by decide, by decide⟩ hlocks
  · rw [kr_cd1 hk, kr_E1]
    exact kr_xS (n := 1) (As := [.int x]) (rest := []) ⟨hx, hb, hml, hown, hts⟩ (x_X0_checkKind l hl0 x hk) kg_RX0_41 ⟨rfl, rfl⟩ (by decide +kernel) ⟨Nat.le_of_ble_eq_true rfl, Nat.le_of_ble_eq_true rfl⟩ (kr_psx hT (fun _ _ => rfl)) rfl hl.1 rfl (Nat.le_of_ble_eq_true rfl) dX0_addKnot_1 ⟨Nat.le_of_ble_eq_true rfl, Nat.le_of_ble_eq_true rfl⟩ ht hlocks
set_option maxHeartbeats 4000000 in
set_option maxRecDepth 100000 in
theorem x_X0_setSpill (l : Launch) (hl0 : l.stackTraces = false) (D : va_G) (cy : ClassId) (h : Nat) (a : Nat → Nat) (N L : Nat) (A : Nat → Nat → Int32) (x y z : Int32) (hN : N ≤ 16) (hc : ¬ kr_cd (kr_i N x) (kr_o y ∧ (¬ z < -1 ∧ z < x) ∧ (z = -1 ∨ A 0 (kr_ix z) = A 0 (kr_ix x))) True = 0) : vx_Met l yX0_setSpill (Cond.code yX0_setSpill cX0_setSpill 5 (some .int) :: kr_all) ({ frames := 7, cells := 1, slots := 6, locals := 111 }) (va_Pc [.ref h, .int x, .int y, .int z] (kr_RT D (kr_W0 cy h a N L A) cy)) kr_no (kr_XC (kr_E (kr_cd (kr_i N x) (kr_o y ∧ (¬ z < -1 ∧ z < x) ∧ (z = -1 ∨ A 0 (kr_ix z) = A 0 (kr_ix x))) True))) 1 6 (fun _ => False) := by
  refine kr_ofX (by decide) (Nat.le_of_ble_eq_true rfl) ?_
  intro p e s m below meth c ls hx hb hml hr hts hown hlocks ht hv hl
  obtain ⟨⟨hP, hK⟩, hT⟩ := hv
  have hown : s.vm.findClass RX0 = some m.cls := hown
  have hl : lv_has ls 5 [(0, .ref h), (1, .int x), (2, .int y), (3, .int z)] := hl
  refine lv_aload_n hx hb dX0_setSpill_0 rfl (lv_at hl 0 rfl) ?_
  refine lv_iload_n hx hb dX0_setSpill_1 rfl (lv_at hl 1 rfl) ?_
  by_cases hk : kr_i N x
  · obtain ⟨k, hk2, rfl⟩ := kr_inN hN hk
    refine kr_vV (n := 1) (As := [.int (nI k)]) (rest := []) ⟨hx, hb, hml, hown, hts⟩ (c_X0_checkKnot l D cy h a N L A k (by omega) (by omega)) kg_RX0_59 ⟨rfl, rfl⟩ (by decide +kernel) ⟨Nat.le_of_ble_eq_true rfl, Nat.le_of_ble_eq_true rfl⟩ (kr_pv0 hP hK) rfl hl.1 rfl (Nat.le_of_ble_eq_true rfl) dX0_setSpill_2 ⟨Nat.zero_le _, Nat.zero_le _⟩ ?_
    refine lv_iload_n hx hb dX0_setSpill_5 rfl (lv_at hl 2 rfl) ?_
    by_cases ho : kr_o y
    · refine kr_sV (n := 1) (As := [.int y]) (rest := []) ⟨hx, hb, hml, hown, hts⟩ (c_X0_checkLoad l y (by assumption)) kg_RX0_62 ⟨rfl, rfl⟩ (by decide +kernel) ⟨Nat.le_of_ble_eq_true rfl, Nat.le_of_ble_eq_true rfl⟩ ⟨kr_blT, fun U hU hW => ⟨rfl, trivial⟩⟩ rfl hl.1 rfl (Nat.le_of_ble_eq_true rfl) dX0_setSpill_6 ⟨Nat.zero_le _, Nat.zero_le _⟩ ?_
      refine lv_iload_n hx hb dX0_setSpill_9 rfl (lv_at hl 3 rfl) ?_
      refine lv_iconst (v := -1) hx hb dX0_setSpill_10 (by decide) ?_
      refine lv_icmp_lt (tgt := 19) hx hb dX0_setSpill_11 (by decide) (fun c11 => ?_) (fun c11 => ?_)
      · rw [kr_cd2 hk (fun w => w.2.1.1 c11), kr_E2]
        exact kr_thrA hx hb hl0 hown hts hT (List.mem_of_getElem? (i := 3) rfl) (hl.1.trans hml.symm) dX0_setSpill_19 dX0_setSpill_22 dX0_setSpill_23 dX0_setSpill_25 dX0_setSpill_28 ht ⟨by decide, by decide, by decide, by decide⟩ hlocks
      · refine lv_iload_n hx hb dX0_setSpill_14 rfl (lv_at hl 3 rfl) ?_
        refine lv_iload_n hx hb dX0_setSpill_15 rfl (lv_at hl 1 rfl) ?_
        refine lv_icmp_lt (tgt := 29) hx hb dX0_setSpill_16 (by decide) (fun c16 => ?_) (fun c16 => ?_)
        · refine lv_iload_n hx hb dX0_setSpill_29 rfl (lv_at hl 3 rfl) ?_
          refine lv_iconst (v := -1) hx hb dX0_setSpill_30 (by decide) ?_
          refine lv_icmp_eq (tgt := 59) hx hb dX0_setSpill_31 (by decide) (fun c31 => ?_) (fun c31 => ?_)
          · exact absurd (kr_cd0 hk ⟨ho, ⟨c11, c16⟩, Or.inl c31⟩ trivial) hc
          · obtain ⟨j, hj, rfl⟩ : ∃ j, j < k ∧ z = nI j := kr_inS (by omega) c11 c16 c31
            refine lv_aload_n hx hb dX0_setSpill_34 rfl (lv_at hl 0 rfl) ?_
            refine va_get (ci := 0) (v := .ref (a 0)) (C := RX0) (T := TX0) (N := 10) hx hb hts kr_wsX0 hown hK hP 0 rfl rfl 0 (by decide) (hts _ kq_42) (fun _ h9 => h9) rfl dX0_setSpill_35 ?_
            refine lv_iload_n hx hb dX0_setSpill_38 rfl (lv_at hl 3 rfl) ?_
            refine kr_ald hx hb hK hP 1 0 rfl rfl j (by omega) (by decide) dX0_setSpill_39 ?_
            refine lv_aload_n hx hb dX0_setSpill_40 rfl (lv_at hl 0 rfl) ?_
            refine va_get (ci := 0) (v := .ref (a 0)) (C := RX0) (T := TX0) (N := 10) hx hb hts kr_wsX0 hown hK hP 0 rfl rfl 0 (by decide) (hts _ kq_42) (fun _ h9 => h9) rfl dX0_setSpill_41 ?_
            refine lv_iload_n hx hb dX0_setSpill_44 rfl (lv_at hl 1 rfl) ?_
            refine kr_ald hx hb hK hP 1 0 rfl rfl k (by omega) (by decide) dX0_setSpill_45 ?_
            refine lv_icmp_eq (tgt := 59) hx hb dX0_setSpill_46 (by decide) (fun c46 => ?_) (fun c46 => ?_)
            · exact absurd (kr_cd0 hk ⟨ho, ⟨c11, c16⟩, Or.inr (by rw [kr_ix_nI (by omega), kr_ix_nI (by omega)]; exact c46)⟩ trivial) hc
            · rw [kr_cd2 hk (fun w => w.2.2.elim (kr_kn_ne (by omega)) (fun e => c46 (by rw [kr_ix_nI (by omega), kr_ix_nI (by omega)] at e; exact e))), kr_E2]
              exact kr_thrA hx hb hl0 hown hts hT (List.mem_of_getElem? (i := 4) rfl) (hl.1.trans hml.symm) dX0_setSpill_49 dX0_setSpill_52 dX0_setSpill_53 dX0_setSpill_55 dX0_setSpill_58 ht ⟨by decide, by decide, by decide, by decide⟩ hlocks
        · rw [kr_cd2 hk (fun w => c16 w.2.1.2), kr_E2]
          exact kr_thrA hx hb hl0 hown hts hT (List.mem_of_getElem? (i := 3) rfl) (hl.1.trans hml.symm) dX0_setSpill_19 dX0_setSpill_22 dX0_setSpill_23 dX0_setSpill_25 dX0_setSpill_28 ht ⟨by decide, by decide, by decide, by decide⟩ hlocks
    · rw [kr_cd2 hk (fun w => ho w.1), kr_E2]
      exact kr_xS (n := 1) (As := [.int y]) (rest := []) ⟨hx, hb, hml, hown, hts⟩ (x_X0_checkLoad l hl0 y ho) kg_RX0_62 ⟨rfl, rfl⟩ (by decide +kernel) ⟨Nat.le_of_ble_eq_true rfl, Nat.le_of_ble_eq_true rfl⟩ (kr_psx hT (fun _ _ => rfl)) rfl hl.1 rfl (Nat.le_of_ble_eq_true rfl) dX0_setSpill_6 ⟨Nat.le_of_ble_eq_true rfl, Nat.le_of_ble_eq_true rfl⟩ ht hlocks
  · rw [kr_cd1 hk, kr_E1]
    exact kr_xV (n := 1) (As := [.int x]) (rest := []) ⟨hx, hb, hml, hown, hts⟩ (x_X0_checkKnot l hl0 D cy h a N L A x hk) kg_RX0_59 ⟨rfl, rfl⟩ (by decide +kernel) ⟨Nat.le_of_ble_eq_true rfl, Nat.le_of_ble_eq_true rfl⟩ (kr_pvx hP hK hT (fun _ _ => rfl)) rfl hl.1 rfl (Nat.le_of_ble_eq_true rfl) dX0_setSpill_2 ⟨Nat.le_of_ble_eq_true rfl, Nat.le_of_ble_eq_true rfl⟩ ht hlocks
theorem kg_RX0_69 : GoodIn kr_all (wsV RX0 69 RX0 yX0_checkOfKind (Cond.code yX0_checkOfKind cX0_checkOfKind 3 none :: kr_all)) := kr_gV kq_167 kq_169 kq_5 kq_25 kq_170
theorem kg_RX0_73 : GoodIn kr_all (wsS RX0 73 yX0_checkStrength (Cond.code yX0_checkStrength cX0_checkStrength 1 none :: kr_all)) := kr_gS kq_487 kq_488 kq_25 kq_489
set_option maxHeartbeats 4000000 in
set_option maxRecDepth 100000 in
theorem x_X0_tie (l : Launch) (hl0 : l.stackTraces = false) (D : va_G) (cy : ClassId) (h : Nat) (a : Nat → Nat) (N L : Nat) (A : Nat → Nat → Int32) (x y : Int32) (hN : N ≤ 16) (hL : L ≤ 6) (hc : ¬ kr_cd (kr_i N x) (A 0 (kr_ix x) = 1 ∧ kr_o y) (L < 6) = 0) : vx_Met l yX0_tie (Cond.code yX0_tie cX0_tie 4 (some .int) :: kr_all) ({ frames := 7, cells := 1, slots := 6, locals := 112 }) (va_Pc [.ref h, .int x, .int y] (kr_RT D (kr_W0 cy h a N L A) cy)) kr_no (kr_XC (kr_E (kr_cd (kr_i N x) (A 0 (kr_ix x) = 1 ∧ kr_o y) (L < 6)))) 1 6 (fun _ => False) := by
  refine kr_ofX (by decide) (Nat.le_of_ble_eq_true rfl) ?_
  intro p e s m below meth c ls hx hb hml hr hts hown hlocks ht hv hl
  obtain ⟨⟨hP, hK⟩, hT⟩ := hv
  have hown : s.vm.findClass RX0 = some m.cls := hown
  have hl : lv_has ls 4 [(0, .ref h), (1, .int x), (2, .int y)] := hl
  refine lv_aload_n hx hb dX0_tie_0 rfl (lv_at hl 0 rfl) ?_
  refine lv_iload_n hx hb dX0_tie_1 rfl (lv_at hl 1 rfl) ?_
  by_cases hk : kr_i N x
  · obtain ⟨k, hk2, rfl⟩ := kr_inN hN hk
    rw [show kr_ix (nI k) = k from kr_ix_nI (by omega)] at hc ⊢
    refine kr_vV (n := 1) (As := [.int (nI k)]) (rest := []) ⟨hx, hb, hml, hown, hts⟩ (c_X0_checkKnot l D cy h a N L A k (by omega) (by omega)) kg_RX0_59 ⟨rfl, rfl⟩ (by decide +kernel) ⟨Nat.le_of_ble_eq_true rfl, Nat.le_of_ble_eq_true rfl⟩ (kr_pv0 hP hK) rfl hl.1 rfl (Nat.le_of_ble_eq_true rfl) dX0_tie_2 ⟨Nat.zero_le _, Nat.zero_le _⟩ ?_
    refine lv_aload_n hx hb dX0_tie_5 rfl (lv_at hl 0 rfl) ?_
    refine lv_iload_n hx hb dX0_tie_6 rfl (lv_at hl 1 rfl) ?_
    refine lv_iconst (v := 1) hx hb dX0_tie_7 (by decide) ?_
    by_cases he : A 0 k = 1
    · refine kr_vV (n := 2) (As := [.int (nI k), .int 1]) (rest := []) ⟨hx, hb, hml, hown, hts⟩ (c_X0_checkOfKind l D cy h a N L A k 1 (by omega) (by assumption)) kg_RX0_69 ⟨rfl, rfl⟩ (by decide +kernel) ⟨Nat.le_of_ble_eq_true rfl, Nat.le_of_ble_eq_true rfl⟩ (kr_pv0 hP hK) rfl hl.1 rfl (Nat.le_of_ble_eq_true rfl) dX0_tie_8 ⟨Nat.zero_le _, Nat.zero_le _⟩ ?_
      refine lv_iload_n hx hb dX0_tie_11 rfl (lv_at hl 2 rfl) ?_
      by_cases ho : kr_o y
      · refine kr_sV (n := 1) (As := [.int y]) (rest := []) ⟨hx, hb, hml, hown, hts⟩ (c_X0_checkStrength l y (by assumption)) kg_RX0_73 ⟨rfl, rfl⟩ (by decide +kernel) ⟨Nat.le_of_ble_eq_true rfl, Nat.le_of_ble_eq_true rfl⟩ ⟨kr_blT, fun U hU hW => ⟨rfl, trivial⟩⟩ rfl hl.1 rfl (Nat.le_of_ble_eq_true rfl) dX0_tie_12 ⟨Nat.zero_le _, Nat.zero_le _⟩ ?_
        refine lv_aload_n hx hb dX0_tie_15 rfl (lv_at hl 0 rfl) ?_
        refine va_get (ci := 0) (v := .int (nI L)) (C := RX0) (T := TX0) (N := 10) hx hb hts kr_wsX0 hown hK hP 0 rfl rfl 7 (by decide) (hts _ kq_49) (fun _ h9 => h9) rfl dX0_tie_16 ?_
        refine lv_bipush (v := 6) hx hb dX0_tie_19 (by decide) ?_
        refine lv_icmp_lt (tgt := 34) hx hb dX0_tie_21 (by decide) (fun c21 => ?_) (fun c21 => ?_)
        · exact absurd (kr_cd0 hk ⟨he, ho⟩ ((nI_ltI (b := 6) (by omega) (by decide)).mp c21)) hc
        · rw [kr_cd3 hk ⟨he, ho⟩ (fun w => c21 (nI_lt (b := 6) w (by decide))), kr_E3]
          exact kr_thrS hx hb hl0 hown hts hT (List.mem_of_getElem? (i := 5) rfl) (hl.1.trans hml.symm) dX0_tie_24 dX0_tie_27 dX0_tie_28 dX0_tie_30 dX0_tie_33 ht ⟨by decide, by decide, by decide, by decide⟩ hlocks
      · rw [kr_cd2 hk (fun w => ho w.2), kr_E2]
        exact kr_xS (n := 1) (As := [.int y]) (rest := []) ⟨hx, hb, hml, hown, hts⟩ (x_X0_checkStrength l hl0 y ho) kg_RX0_73 ⟨rfl, rfl⟩ (by decide +kernel) ⟨Nat.le_of_ble_eq_true rfl, Nat.le_of_ble_eq_true rfl⟩ (kr_psx hT (fun _ _ => rfl)) rfl hl.1 rfl (Nat.le_of_ble_eq_true rfl) dX0_tie_12 ⟨Nat.le_of_ble_eq_true rfl, Nat.le_of_ble_eq_true rfl⟩ ht hlocks
    · rw [kr_cd2 hk (fun w => he w.1), kr_E2]
      exact kr_xV (n := 2) (As := [.int (nI k), .int 1]) (rest := []) ⟨hx, hb, hml, hown, hts⟩ (x_X0_checkOfKind l hl0 D cy h a N L A k 1 (by omega) he) kg_RX0_69 ⟨rfl, rfl⟩ (by decide +kernel) ⟨Nat.le_of_ble_eq_true rfl, Nat.le_of_ble_eq_true rfl⟩ (kr_pvx hP hK hT (fun _ _ => rfl)) rfl hl.1 rfl (Nat.le_of_ble_eq_true rfl) dX0_tie_8 ⟨Nat.le_of_ble_eq_true rfl, Nat.le_of_ble_eq_true rfl⟩ ht hlocks
  · rw [kr_cd1 hk, kr_E1]
    exact kr_xV (n := 1) (As := [.int x]) (rest := []) ⟨hx, hb, hml, hown, hts⟩ (x_X0_checkKnot l hl0 D cy h a N L A x hk) kg_RX0_59 ⟨rfl, rfl⟩ (by decide +kernel) ⟨Nat.le_of_ble_eq_true rfl, Nat.le_of_ble_eq_true rfl⟩ (kr_pvx hP hK hT (fun _ _ => rfl)) rfl hl.1 rfl (Nat.le_of_ble_eq_true rfl) dX0_tie_2 ⟨Nat.le_of_ble_eq_true rfl, Nat.le_of_ble_eq_true rfl⟩ ht hlocks
theorem kg_RX0_85 : GoodIn kr_all (wsV RX0 85 RX0 yX0_checkNotGone (Cond.code yX0_checkNotGone cX0_checkNotGone 2 none :: kr_all)) := kr_gV kq_198 kq_200 kq_6 kq_25 kq_201
set_option maxHeartbeats 4000000 in
set_option maxRecDepth 100000 in
theorem x_X0_join (l : Launch) (hl0 : l.stackTraces = false) (D : va_G) (cy : ClassId) (h : Nat) (a : Nat → Nat) (N L : Nat) (A : Nat → Nat → Int32) (x y z : Int32) (hw : kr_wf N L A) (hc : ¬ kr_cd (kr_i L x ∧ kr_i N y) (A 0 (kr_ix y) = 0 ∧ kr_o z) (¬ A 5 (kr_ix x) = 0 ∧ A 5 (kr_ix x) < 5) = 0) : vx_Met l yX0_join (Cond.code yX0_join cX0_join 4 (some .int) :: kr_all) ({ frames := 7, cells := 1, slots := 6, locals := 112 }) (va_Pc [.ref h, .int x, .int y, .int z] (kr_RT D (kr_W0 cy h a N L A) cy)) kr_no (kr_XC (kr_E (kr_cd (kr_i L x ∧ kr_i N y) (A 0 (kr_ix y) = 0 ∧ kr_o z) (¬ A 5 (kr_ix x) = 0 ∧ A 5 (kr_ix x) < 5)))) 1 6 (fun _ => False) := by
  refine kr_ofX (by decide) (Nat.le_of_ble_eq_true rfl) ?_
  intro p e s m below meth c ls hx hb hml hr hts hown hlocks ht hv hl
  obtain ⟨⟨hP, hK⟩, hT⟩ := hv
  have hown : s.vm.findClass RX0 = some m.cls := hown
  have hl : lv_has ls 4 [(0, .ref h), (1, .int x), (2, .int y), (3, .int z)] := hl
  have hN := hw.1
  have hL := hw.2.1
  refine lv_aload_n hx hb dX0_join_0 rfl (lv_at hl 0 rfl) ?_
  refine lv_iload_n hx hb dX0_join_1 rfl (lv_at hl 1 rfl) ?_
  by_cases hk1 : kr_i L x
  · obtain ⟨q, hq, rfl⟩ := kr_inL hL hk1
    obtain ⟨hrc, er⟩ := hw.rc hq
    refine kr_vV (n := 1) (As := [.int (nI q)]) (rest := []) ⟨hx, hb, hml, hown, hts⟩ (c_X0_checkLine l D cy h a N L A q (by omega) (by omega)) kg_RX0_82 ⟨rfl, rfl⟩ (by decide +kernel) ⟨Nat.le_of_ble_eq_true rfl, Nat.le_of_ble_eq_true rfl⟩ (kr_pv0 hP hK) rfl hl.1 rfl (Nat.le_of_ble_eq_true rfl) dX0_join_2 ⟨Nat.zero_le _, Nat.zero_le _⟩ ?_
    refine lv_aload_n hx hb dX0_join_5 rfl (lv_at hl 0 rfl) ?_
    refine lv_iload_n hx hb dX0_join_6 rfl (lv_at hl 2 rfl) ?_
    by_cases hk : kr_i N y
    · obtain ⟨k, hk2, rfl⟩ := kr_inN hN hk
      rw [show kr_ix (nI k) = k from kr_ix_nI (by omega), show kr_ix (nI q) = q from kr_ix_nI (by omega)] at hc ⊢
      refine kr_vV (n := 1) (As := [.int (nI k)]) (rest := []) ⟨hx, hb, hml, hown, hts⟩ (c_X0_checkKnot l D cy h a N L A k (by omega) (by omega)) kg_RX0_59 ⟨rfl, rfl⟩ (by decide +kernel) ⟨Nat.le_of_ble_eq_true rfl, Nat.le_of_ble_eq_true rfl⟩ (kr_pv0 hP hK) rfl hl.1 rfl (Nat.le_of_ble_eq_true rfl) dX0_join_7 ⟨Nat.zero_le _, Nat.zero_le _⟩ ?_
      refine lv_aload_n hx hb dX0_join_10 rfl (lv_at hl 0 rfl) ?_
      refine lv_iload_n hx hb dX0_join_11 rfl (lv_at hl 2 rfl) ?_
      refine lv_iconst (v := 0) hx hb dX0_join_12 (by decide) ?_
      by_cases he : A 0 k = 0
      · refine kr_vV (n := 2) (As := [.int (nI k), .int 0]) (rest := []) ⟨hx, hb, hml, hown, hts⟩ (c_X0_checkOfKind l D cy h a N L A k 0 (by omega) (by assumption)) kg_RX0_69 ⟨rfl, rfl⟩ (by decide +kernel) ⟨Nat.le_of_ble_eq_true rfl, Nat.le_of_ble_eq_true rfl⟩ (kr_pv0 hP hK) rfl hl.1 rfl (Nat.le_of_ble_eq_true rfl) dX0_join_13 ⟨Nat.zero_le _, Nat.zero_le _⟩ ?_
        refine lv_iload_n hx hb dX0_join_16 rfl (lv_at hl 3 rfl) ?_
        by_cases ho : kr_o z
        · refine kr_sV (n := 1) (As := [.int z]) (rest := []) ⟨hx, hb, hml, hown, hts⟩ (c_X0_checkStrength l z (by assumption)) kg_RX0_73 ⟨rfl, rfl⟩ (by decide +kernel) ⟨Nat.le_of_ble_eq_true rfl, Nat.le_of_ble_eq_true rfl⟩ ⟨kr_blT, fun U hU hW => ⟨rfl, trivial⟩⟩ rfl hl.1 rfl (Nat.le_of_ble_eq_true rfl) dX0_join_17 ⟨Nat.zero_le _, Nat.zero_le _⟩ ?_
          refine lv_aload_n hx hb dX0_join_20 rfl (lv_at hl 0 rfl) ?_
          refine lv_iload_n hx hb dX0_join_21 rfl (lv_at hl 1 rfl) ?_
          by_cases hg : A 5 q = 0
          · rw [kr_cd3 ⟨hk1, hk⟩ ⟨he, ho⟩ (fun w => w.1 hg), kr_E3]
            exact kr_xV (n := 1) (As := [.int (nI q)]) (rest := []) ⟨hx, hb, hml, hown, hts⟩ (x_X0_checkNotGone l hl0 D cy h a N L A q (by omega) hg) kg_RX0_85 ⟨rfl, rfl⟩ (by decide +kernel) ⟨Nat.le_of_ble_eq_true rfl, Nat.le_of_ble_eq_true rfl⟩ (kr_pvx hP hK hT (fun _ _ => rfl)) rfl hl.1 rfl (Nat.le_of_ble_eq_true rfl) dX0_join_22 ⟨Nat.le_of_ble_eq_true rfl, Nat.le_of_ble_eq_true rfl⟩ ht hlocks
          · refine kr_vV (n := 1) (As := [.int (nI q)]) (rest := []) ⟨hx, hb, hml, hown, hts⟩ (c_X0_checkNotGone l D cy h a N L A q (by omega) (by assumption)) kg_RX0_85 ⟨rfl, rfl⟩ (by decide +kernel) ⟨Nat.le_of_ble_eq_true rfl, Nat.le_of_ble_eq_true rfl⟩ (kr_pv0 hP hK) rfl hl.1 rfl (Nat.le_of_ble_eq_true rfl) dX0_join_22 ⟨Nat.zero_le _, Nat.zero_le _⟩ ?_
            refine lv_aload_n hx hb dX0_join_25 rfl (lv_at hl 0 rfl) ?_
            refine va_get (ci := 0) (v := .ref (a 5)) (C := RX0) (T := TX0) (N := 10) hx hb hts kr_wsX0 hown hK hP 0 rfl rfl 6 (by decide) (hts _ kq_48) (fun _ h9 => h9) rfl dX0_join_26 ?_
            refine lv_iload_n hx hb dX0_join_29 rfl (lv_at hl 1 rfl) ?_
            refine kr_ald hx hb hK hP 6 0 rfl rfl q (by omega) (by decide) dX0_join_30 ?_
            refine lv_iconst (v := 5) hx hb dX0_join_31 (by decide) ?_
            refine lv_icmp_lt (tgt := 45) hx hb dX0_join_32 (by decide) (fun c32 => ?_) (fun c32 => ?_)
            · exact absurd (kr_cd0 ⟨hk1, hk⟩ ⟨he, ho⟩ ⟨hg, c32⟩) hc
            · rw [kr_cd3 ⟨hk1, hk⟩ ⟨he, ho⟩ (fun w => c32 w.2), kr_E3]
              exact kr_thrS hx hb hl0 hown hts hT (List.mem_of_getElem? (i := 6) rfl) (hl.1.trans hml.symm) dX0_join_35 dX0_join_38 dX0_join_39 dX0_join_41 dX0_join_44 ht ⟨by decide, by decide, by decide, by decide⟩ hlocks
        · rw [kr_cd2 ⟨hk1, hk⟩ (fun w => ho w.2), kr_E2]
          exact kr_xS (n := 1) (As := [.int z]) (rest := []) ⟨hx, hb, hml, hown, hts⟩ (x_X0_checkStrength l hl0 z ho) kg_RX0_73 ⟨rfl, rfl⟩ (by decide +kernel) ⟨Nat.le_of_ble_eq_true rfl, Nat.le_of_ble_eq_true rfl⟩ (kr_psx hT (fun _ _ => rfl)) rfl hl.1 rfl (Nat.le_of_ble_eq_true rfl) dX0_join_17 ⟨Nat.le_of_ble_eq_true rfl, Nat.le_of_ble_eq_true rfl⟩ ht hlocks
      · rw [kr_cd2 ⟨hk1, hk⟩ (fun w => he w.1), kr_E2]
        exact kr_xV (n := 2) (As := [.int (nI k), .int 0]) (rest := []) ⟨hx, hb, hml, hown, hts⟩ (x_X0_checkOfKind l hl0 D cy h a N L A k 0 (by omega) he) kg_RX0_69 ⟨rfl, rfl⟩ (by decide +kernel) ⟨Nat.le_of_ble_eq_true rfl, Nat.le_of_ble_eq_true rfl⟩ (kr_pvx hP hK hT (fun _ _ => rfl)) rfl hl.1 rfl (Nat.le_of_ble_eq_true rfl) dX0_join_13 ⟨Nat.le_of_ble_eq_true rfl, Nat.le_of_ble_eq_true rfl⟩ ht hlocks
    · rw [kr_cd1 (fun w => hk w.2), kr_E1]
      exact kr_xV (n := 1) (As := [.int y]) (rest := []) ⟨hx, hb, hml, hown, hts⟩ (x_X0_checkKnot l hl0 D cy h a N L A y hk) kg_RX0_59 ⟨rfl, rfl⟩ (by decide +kernel) ⟨Nat.le_of_ble_eq_true rfl, Nat.le_of_ble_eq_true rfl⟩ (kr_pvx hP hK hT (fun _ _ => rfl)) rfl hl.1 rfl (Nat.le_of_ble_eq_true rfl) dX0_join_7 ⟨Nat.le_of_ble_eq_true rfl, Nat.le_of_ble_eq_true rfl⟩ ht hlocks
  · rw [kr_cd1 (fun w => hk1 w.1), kr_E1]
    exact kr_xV (n := 1) (As := [.int x]) (rest := []) ⟨hx, hb, hml, hown, hts⟩ (x_X0_checkLine l hl0 D cy h a N L A x hk1) kg_RX0_82 ⟨rfl, rfl⟩ (by decide +kernel) ⟨Nat.le_of_ble_eq_true rfl, Nat.le_of_ble_eq_true rfl⟩ (kr_pvx hP hK hT (fun _ _ => rfl)) rfl hl.1 rfl (Nat.le_of_ble_eq_true rfl) dX0_join_2 ⟨Nat.le_of_ble_eq_true rfl, Nat.le_of_ble_eq_true rfl⟩ ht hlocks
set_option maxHeartbeats 4000000 in
set_option maxRecDepth 100000 in
theorem x_X0_retie (l : Launch) (hl0 : l.stackTraces = false) (D : va_G) (cy : ClassId) (h : Nat) (a : Nat → Nat) (N L : Nat) (A : Nat → Nat → Int32) (x y z : Int32) (hw : kr_wf N L A) (hc : ¬ kr_cd (kr_q L A x y ∧ kr_i N z) (A 0 (kr_ix z) = if y = 0 then 1 else 0) True = 0) : vx_Met l yX0_retie (Cond.code yX0_retie cX0_retie 6 (some .int) :: kr_all) ({ frames := 8, cells := 1, slots := 6, locals := 133 }) (va_Pc [.ref h, .int x, .int y, .int z] (kr_RT D (kr_W0 cy h a N L A) cy)) kr_no (kr_XC (kr_E (kr_cd (kr_q L A x y ∧ kr_i N z) (A 0 (kr_ix z) = if y = 0 then 1 else 0) True))) 1 6 (fun _ => False) := by
  refine kr_ofX (by decide) (Nat.le_of_ble_eq_true rfl) ?_
  intro p e s m below meth c ls hx hb hml hr hts hown hlocks ht hv hl
  obtain ⟨⟨hP, hK⟩, hT⟩ := hv
  have hown : s.vm.findClass RX0 = some m.cls := hown
  have hl : lv_has ls 6 [(0, .ref h), (1, .int x), (2, .int y), (3, .int z)] := hl
  have hN := hw.1
  have hL := hw.2.1
  refine lv_aload_n hx hb dX0_retie_0 rfl (lv_at hl 0 rfl) ?_
  refine lv_iload_n hx hb dX0_retie_1 rfl (lv_at hl 1 rfl) ?_
  refine lv_iload_n hx hb dX0_retie_2 rfl (lv_at hl 2 rfl) ?_
  by_cases hk1 : kr_q L A x y
  · obtain ⟨q, pl, hq, hp, rfl, rfl⟩ := kr_inP hw hk1
    obtain ⟨hrc, er⟩ := hw.rc hq
    refine kr_vV (n := 2) (As := [.int (nI q), .int (nI pl)]) (rest := []) ⟨hx, hb, hml, hown, hts⟩ (c_X0_checkPlace l D cy h a N L A q pl hw (by omega) (by omega)) kg_RX0_90 ⟨rfl, rfl⟩ (by decide +kernel) ⟨Nat.le_of_ble_eq_true rfl, Nat.le_of_ble_eq_true rfl⟩ (kr_pv0 hP hK) rfl hl.1 rfl (Nat.le_of_ble_eq_true rfl) dX0_retie_3 ⟨Nat.zero_le _, Nat.zero_le _⟩ ?_
    refine lv_aload_n hx hb dX0_retie_6 rfl (lv_at hl 0 rfl) ?_
    refine lv_iload_n hx hb dX0_retie_7 rfl (lv_at hl 3 rfl) ?_
    by_cases hk : kr_i N z
    · obtain ⟨k, hk2, rfl⟩ := kr_inN hN hk
      rw [show kr_ix (nI k) = k from kr_ix_nI (by omega)] at hc ⊢
      refine kr_vV (n := 1) (As := [.int (nI k)]) (rest := []) ⟨hx, hb, hml, hown, hts⟩ (c_X0_checkKnot l D cy h a N L A k (by omega) (by omega)) kg_RX0_59 ⟨rfl, rfl⟩ (by decide +kernel) ⟨Nat.le_of_ble_eq_true rfl, Nat.le_of_ble_eq_true rfl⟩ (kr_pv0 hP hK) rfl hl.1 rfl (Nat.le_of_ble_eq_true rfl) dX0_retie_8 ⟨Nat.zero_le _, Nat.zero_le _⟩ ?_
      refine lv_aload_n hx hb dX0_retie_11 rfl (lv_at hl 0 rfl) ?_
      refine lv_iload_n hx hb dX0_retie_12 rfl (lv_at hl 3 rfl) ?_
      refine lv_iload_n hx hb dX0_retie_13 rfl (lv_at hl 2 rfl) ?_
      refine kr_sI (n := 1) (As := [.int (nI pl)]) (rest := [.int (nI k), .ref h]) ⟨hx, hb, hml, hown, hts⟩ (c_X0_kindDueAt l (nI pl)) kg_RX0_93 ⟨rfl, rfl⟩ (by decide +kernel) ⟨Nat.le_of_ble_eq_true rfl, Nat.le_of_ble_eq_true rfl⟩ ⟨kr_blT, fun U hU hW => ⟨rfl, trivial⟩⟩ rfl hl.1 rfl (Nat.le_of_ble_eq_true rfl) dX0_retie_14 ⟨Nat.zero_le _, Nat.zero_le _⟩ (fun r9 e9 => ?_)
      subst e9
      by_cases he : A 0 k = if nI pl = 0 then (1 : Int32) else 0
      · exact absurd (kr_cd0 ⟨hk1, hk⟩ he trivial) hc
      · rw [kr_cd2 ⟨hk1, hk⟩ he, kr_E2]
        exact kr_xV (n := 2) (As := [.int (nI k), .int (if (nI pl) = 0 then (1 : Int32) else 0)]) (rest := []) ⟨hx, hb, hml, hown, hts⟩ (x_X0_checkOfKind l hl0 D cy h a N L A k (if nI pl = 0 then (1 : Int32) else 0) (by omega) he) kg_RX0_69 ⟨rfl, rfl⟩ (by decide +kernel) ⟨Nat.le_of_ble_eq_true rfl, Nat.le_of_ble_eq_true rfl⟩ (kr_pvx hP hK hT (fun _ _ => rfl)) rfl hl.1 rfl (Nat.le_of_ble_eq_true rfl) dX0_retie_17 ⟨Nat.le_of_ble_eq_true rfl, Nat.le_of_ble_eq_true rfl⟩ ht hlocks
    · rw [kr_cd1 (fun w => hk w.2), kr_E1]
      exact kr_xV (n := 1) (As := [.int z]) (rest := []) ⟨hx, hb, hml, hown, hts⟩ (x_X0_checkKnot l hl0 D cy h a N L A z hk) kg_RX0_59 ⟨rfl, rfl⟩ (by decide +kernel) ⟨Nat.le_of_ble_eq_true rfl, Nat.le_of_ble_eq_true rfl⟩ (kr_pvx hP hK hT (fun _ _ => rfl)) rfl hl.1 rfl (Nat.le_of_ble_eq_true rfl) dX0_retie_8 ⟨Nat.le_of_ble_eq_true rfl, Nat.le_of_ble_eq_true rfl⟩ ht hlocks
  · rw [kr_cd1 (fun w => hk1 w.1), kr_E1]
    exact kr_xV (n := 2) (As := [.int x, .int y]) (rest := []) ⟨hx, hb, hml, hown, hts⟩ (x_X0_checkPlace l hl0 D cy h a N L A x y hw hk1) kg_RX0_90 ⟨rfl, rfl⟩ (by decide +kernel) ⟨Nat.le_of_ble_eq_true rfl, Nat.le_of_ble_eq_true rfl⟩ (kr_pvx hP hK hT (fun _ _ => rfl)) rfl hl.1 rfl (Nat.le_of_ble_eq_true rfl) dX0_retie_3 ⟨Nat.le_of_ble_eq_true rfl, Nat.le_of_ble_eq_true rfl⟩ ht hlocks
set_option maxHeartbeats 4000000 in
set_option maxRecDepth 100000 in
theorem x_X0_pull (l : Launch) (hl0 : l.stackTraces = false) (D : va_G) (cy : ClassId) (h : Nat) (a : Nat → Nat) (N L : Nat) (A : Nat → Nat → Int32) (x y : Int32) (hL : L ≤ 6) (hc : ¬ kr_cd (kr_i L x) (kr_o y) (¬ A 5 (kr_ix x) = 0) = 0) : vx_Met l yX0_pull (Cond.code yX0_pull cX0_pull 6 (some .int) :: kr_all) ({ frames := 7, cells := 1, slots := 6, locals := 111 }) (va_Pc [.ref h, .int x, .int y] (kr_RT D (kr_W0 cy h a N L A) cy)) kr_no (kr_XC (kr_E (kr_cd (kr_i L x) (kr_o y) (¬ A 5 (kr_ix x) = 0)))) 1 6 (fun _ => False) := by
  refine kr_ofX (by decide) (Nat.le_of_ble_eq_true rfl) ?_
  intro p e s m below meth c ls hx hb hml hr hts hown hlocks ht hv hl
  obtain ⟨⟨hP, hK⟩, hT⟩ := hv
  have hown : s.vm.findClass RX0 = some m.cls := hown
  have hl : lv_has ls 6 [(0, .ref h), (1, .int x), (2, .int y)] := hl
  refine lv_aload_n hx hb dX0_pull_0 rfl (lv_at hl 0 rfl) ?_
  refine lv_iload_n hx hb dX0_pull_1 rfl (lv_at hl 1 rfl) ?_
  by_cases hk : kr_i L x
  · obtain ⟨q, hq, rfl⟩ := kr_inL hL hk
    rw [show kr_ix (nI q) = q from kr_ix_nI (by omega)] at hc ⊢
    refine kr_vV (n := 1) (As := [.int (nI q)]) (rest := []) ⟨hx, hb, hml, hown, hts⟩ (c_X0_checkLine l D cy h a N L A q (by omega) (by omega)) kg_RX0_82 ⟨rfl, rfl⟩ (by decide +kernel) ⟨Nat.le_of_ble_eq_true rfl, Nat.le_of_ble_eq_true rfl⟩ (kr_pv0 hP hK) rfl hl.1 rfl (Nat.le_of_ble_eq_true rfl) dX0_pull_2 ⟨Nat.zero_le _, Nat.zero_le _⟩ ?_
    refine lv_iload_n hx hb dX0_pull_5 rfl (lv_at hl 2 rfl) ?_
    by_cases ho : kr_o y
    · refine kr_sV (n := 1) (As := [.int y]) (rest := []) ⟨hx, hb, hml, hown, hts⟩ (c_X0_checkLoad l y (by assumption)) kg_RX0_62 ⟨rfl, rfl⟩ (by decide +kernel) ⟨Nat.le_of_ble_eq_true rfl, Nat.le_of_ble_eq_true rfl⟩ ⟨kr_blT, fun U hU hW => ⟨rfl, trivial⟩⟩ rfl hl.1 rfl (Nat.le_of_ble_eq_true rfl) dX0_pull_6 ⟨Nat.zero_le _, Nat.zero_le _⟩ ?_
      refine lv_aload_n hx hb dX0_pull_9 rfl (lv_at hl 0 rfl) ?_
      refine lv_iload_n hx hb dX0_pull_10 rfl (lv_at hl 1 rfl) ?_
      by_cases hg : A 5 q = 0
      · rw [kr_cd3 hk ho (fun w => w hg), kr_E3]
        exact kr_xV (n := 1) (As := [.int (nI q)]) (rest := []) ⟨hx, hb, hml, hown, hts⟩ (x_X0_checkNotGone l hl0 D cy h a N L A q (by omega) hg) kg_RX0_85 ⟨rfl, rfl⟩ (by decide +kernel) ⟨Nat.le_of_ble_eq_true rfl, Nat.le_of_ble_eq_true rfl⟩ (kr_pvx hP hK hT (fun _ _ => rfl)) rfl hl.1 rfl (Nat.le_of_ble_eq_true rfl) dX0_pull_11 ⟨Nat.le_of_ble_eq_true rfl, Nat.le_of_ble_eq_true rfl⟩ ht hlocks
      · exact absurd (kr_cd0 hk ho hg) hc
    · rw [kr_cd2 hk ho, kr_E2]
      exact kr_xS (n := 1) (As := [.int y]) (rest := []) ⟨hx, hb, hml, hown, hts⟩ (x_X0_checkLoad l hl0 y ho) kg_RX0_62 ⟨rfl, rfl⟩ (by decide +kernel) ⟨Nat.le_of_ble_eq_true rfl, Nat.le_of_ble_eq_true rfl⟩ (kr_psx hT (fun _ _ => rfl)) rfl hl.1 rfl (Nat.le_of_ble_eq_true rfl) dX0_pull_6 ⟨Nat.le_of_ble_eq_true rfl, Nat.le_of_ble_eq_true rfl⟩ ht hlocks
  · rw [kr_cd1 hk, kr_E1]
    exact kr_xV (n := 1) (As := [.int x]) (rest := []) ⟨hx, hb, hml, hown, hts⟩ (x_X0_checkLine l hl0 D cy h a N L A x hk) kg_RX0_82 ⟨rfl, rfl⟩ (by decide +kernel) ⟨Nat.le_of_ble_eq_true rfl, Nat.le_of_ble_eq_true rfl⟩ (kr_pvx hP hK hT (fun _ _ => rfl)) rfl hl.1 rfl (Nat.le_of_ble_eq_true rfl) dX0_pull_2 ⟨Nat.le_of_ble_eq_true rfl, Nat.le_of_ble_eq_true rfl⟩ ht hlocks
end
section
/-! methods that write -/
def kr_Rw (D : va_G) (ws : va_W) (cy : ClassId) (sz : Nat) (U : State) : Prop := U.heap.size = sz ∧ va_P D vwCl ws U.heap ∧ va_K D vwCl [(cy, .int)] U ∧ va_D (fun _ => True) ws
def kr_Rq (D : va_G) (ws : va_W) (cy : ClassId) (AA : Nat → Prop) (t : State) : Prop := va_P D vwCl ws t.heap ∧ va_K D vwCl [(cy, .int)] t ∧ va_D AA ws
theorem kr_blw {D : va_G} {ws : va_W} {cy : ClassId} {sz : Nat} {av : List Value} : FrameBlind (va_Pc av (kr_Rw D ws cy sz)) := fun a U g mk q => ⟨q.1, q.2.1, q.2.2.1, va_K.moved (u := U) (U := U.calling g mk a) (Vm.Alike.refl U.vm) q.2.2.2.1, q.2.2.2.2⟩
theorem kr_ofw {l : Launch} {y : MethodName} {cc : ByteArray} {maxL : Nat} {ret : Option FieldType} {rm : Room} {vs : List Value} {D : va_G} {ws : va_W} {cy : ClassId} {sz : Nat} {Qc : (Nat → Prop) → Array Value → State → Outcome → State → Prop} {mc ms : Nat} (hy : plainName y.cls = true) (hlen : (lg_sl vs).length ≤ maxL)
    (body : ∀ (p : Program) (e : Env) (s : State) (m : MethodId) (below : List Frame) (meth : Method) (c : Code) (ls : Array Slot) (AA : Nat → Prop), p.tables.exec = Jvm.exec → c.code = cc → c.maxLocals = maxL → meth.sig.returnType = ret → (∀ w ∈ kr_all, w.before vs.toArray s = true) → s.vm.findClass y.cls = some m.cls → meth.locks = false → meth.name = y.name → (∀ q : Nat, s.heap.size ≤ q → AA q) → va_P D vwCl ws s.heap → va_K D vwCl [(cy, .int)] s → va_D AA ws → va_S AA s.heap s.heap [] → lv_has ls maxL (lv_args 0 vs) → W p l e rm s m vs.toArray below meth c s.heap [] 0 0 (MQ below (Qc AA) vs.toArray s mc ms AA) (F0 m 0 ls [])) :
    Met l y (Cond.code y cc maxL ret :: kr_all) rm (va_Pc vs (kr_Rw D ws cy sz)) (Qc (va_A ws sz)) mc ms (va_A ws sz) := by
  refine Met.ofW (cc := cc) (maxL := maxL) (ret := ret) hy rfl ?_
  intro p e s m args below meth c s₁ B hml hv
  obtain ⟨rfl, hsz, hP, hK, hD0⟩ := hv
  subst hsz
  have hts := atoms_spec (ws := Cond.code y cc maxL ret :: kr_all) B.pre
  have hl := lv_entry vs (n := maxL) hlen
  rw [lg_entry_eq]
  exact body p e s m below meth c _ (va_A ws s.heap.size) B.exec B.bytes hml B.returns (fun w h => hts w (List.mem_cons_of_mem _ h)) (findClass_of_methodNamed B.named) B.notSynchronized (name_of_methodNamed B.named B.method).1 (fun q h => Or.inr h) hP hK (hD0.self (sz := s.heap.size)) va_S.rf hl
section KRWW
variable {p : Program} {l : Launch} {e : Env} {R : Room} {s : State} {m : MethodId} {args : Array Value} {below : List Frame} {meth : Method} {c : Code} {H : Heap} {locs : List Loc} {cells slots : Nat} {Q : State → Prop} {cc : ByteArray} {pc : Nat} {ls : Array Slot} {rest st st0 : List Value} {D : va_G} {ws : va_W} {cy : ClassId} {AA : Nat → Prop}
theorem kr_wI {post : Int32 → Prop} {v : Int32} (hx : p.tables.exec = Jvm.exec) (hb : c.code = cc) (hr : meth.sig.returnType = some .int) (hlocks : meth.locks = false) (hP : va_P D vwCl ws H) (hK : va_K D vwCl [(cy, .int)] s) (hD : va_D AA ws) (hS : va_S AA s.heap H locs) (hp : post v) (hdg : decode cc pc = .ok (.ireturn, 1)) : W p l e R s m args below meth c H locs cells slots (MQ below (va_Qi (fun r (_ : Unit) => post r) (fun _ t => kr_Rq D ws cy AA t) AA) args s cells slots AA) (F0 m pc ls [.int v]) := W.iret hx hb hr (fun t ht hW => ⟨⟨v, (), rfl, hp, by rw [ht]; exact hP, va_K.moved hW.alike hK, hD⟩, hS.F ht⟩) hS.2.2 hdg hlocks
theorem kr_wZ {post : Int32 → Prop} {v : Int32} (hx : p.tables.exec = Jvm.exec) (hb : c.code = cc) (hr : meth.sig.returnType = some .boolean) (hlocks : meth.locks = false) (hP : va_P D vwCl ws H) (hK : va_K D vwCl [(cy, .int)] s) (hD : va_D AA ws) (hS : va_S AA s.heap H locs) (hv : v = 0 ∨ v = 1) (hp : post v) (hdg : decode cc pc = .ok (.ireturn, 1)) : W p l e R s m args below meth c H locs cells slots (MQ below (va_Qi (fun r (_ : Unit) => post r) (fun _ t => kr_Rq D ws cy AA t) AA) args s cells slots AA) (F0 m pc ls [.int v]) := W.zret (ty := .boolean) hx hb hr (by rcases hv with rfl | rfl <;> decide) (fun t ht hW => ⟨⟨v, (), rfl, hp, by rw [ht]; exact hP, va_K.moved hW.alike hK, hD⟩, hS.F ht⟩) hS.2.2 hdg hlocks
theorem kr_wV {post : Prop} (hx : p.tables.exec = Jvm.exec) (hb : c.code = cc) (hr : meth.sig.returnType = none) (hlocks : meth.locks = false) (hP : va_P D vwCl ws H) (hK : va_K D vwCl [(cy, .int)] s) (hD : va_D AA ws) (hS : va_S AA s.heap H locs) (hp : post) (hdg : decode cc pc = .ok (.return_, 1)) : W p l e R s m args below meth c H locs cells slots (MQ below (va_Qv (fun (_ : Unit) => post) (fun _ t => kr_Rq D ws cy AA t) AA) args s cells slots AA) (F0 m pc ls []) := W.vret hx hb hr (fun t ht hW => ⟨⟨(), rfl, hp, by rw [ht]; exact hP, va_K.moved hW.alike hK, hD⟩, hS.F ht⟩) hS.2.2 hdg hlocks
theorem kr_wL {post : Int64 → Prop} {v : Int64} (hx : p.tables.exec = Jvm.exec) (hb : c.code = cc) (hr : meth.sig.returnType = some .long) (hlocks : meth.locks = false) (hP : va_P D vwCl ws H) (hK : va_K D vwCl [(cy, .int)] s) (hD : va_D AA ws) (hS : va_S AA s.heap H locs) (hp : post v) (hdg : decode cc pc = .ok (.lreturn, 1)) : W p l e R s m args below meth c H locs cells slots (MQ below (va_Ql (fun r (_ : Unit) => post r) (fun _ t => kr_Rq D ws cy AA t) AA) args s cells slots AA) (F0 m pc ls [.long v]) := W.lret hx hb hr (fun t ht hW => ⟨⟨v, (), rfl, hp, by rw [ht]; exact hP, va_K.moved hW.alike hK, hD⟩, hS.F ht⟩) hS.2.2 hdg hlocks
theorem kr_fr {H0 : Heap} (hD : va_D AA ws) (hS : va_S AA H0 H locs) (hA : ∀ q : Nat, H0.size ≤ q → AA q) : ∀ q, va_A ws H.size q → AA q := by
  intro q h
  rcases h with ⟨k, e, h⟩ | h
  · exact hD.2 k (q, e) h
  · exact hA q (Nat.le_trans hS.1 h)
/-- a call of a method of the same world that writes -/
theorem kr_wvI {V : Type} {own C : String} {idx maxL nL n mc ms : Nat} {y : MethodName} {bytes : ByteArray} {ret : Option FieldType} {rm : Room} {b : Addr} {As : List Value} {H0 : Heap} {wq : V → va_W} {post : Int32 → V → Prop} (S : CallFix p m c cc nL s args kr_all own) (hM : Met l y (Cond.code y bytes maxL ret :: kr_all) rm (va_Pc (.ref b :: As) (kr_Rw D ws cy H.size)) (va_Qi post (fun u t => kr_Rq D (wq u) cy (va_A ws H.size) t) (va_A ws H.size)) mc ms (va_A ws H.size)) (g : GoodIn kr_all (wsV own idx C y (Cond.code y bytes maxL ret :: kr_all))) (hr0 : rm.cells = mc ∧ rm.slots = ms)
    (hd : y.cls = C ∧ y.cls ≠ "java/lang/invoke/MethodHandle" ∧ y.cls ≠ "java/lang/invoke/VarHandle" ∧ (parseMethodDescriptor y.desc).map (fun d => d.parameters.length) = some n) (hR : rm.frames + 1 ≤ R.frames ∧ 8 + (maxL + 11) + rm.locals ≤ R.locals) (hrecv : ∃ cellB : Cell, H[b]? = some cellB ∧ cellB.vm.isStatics = false ∧ s.vm.findClass C = some cellB.cls) (hP : va_P D vwCl ws H) (hK : va_K D vwCl [(cy, .int)] s) (hD : va_D AA ws) (hS : va_S AA H0 H locs) (hA : ∀ q : Nat, H0.size ≤ q → AA q) (hn : As.length = n) (hsize : ls.size = nL) (hst : st0 = As.reverse ++ .ref b :: rest) (hW : (rest.map fun v => v.category).sum ≤ 8) (hdg : decode cc pc = .ok (.invokevirtual idx, 3)) (hf : cells + mc ≤ R.cells ∧ slots + ms ≤ R.slots)
    (kk : ∀ (r : Int32) (u : V) (H1 : Heap) (locs1 : List Loc), post r u → va_P D vwCl (wq u) H1 → va_D AA (wq u) → va_S AA H0 H1 locs1 → W p l e R s m args below meth c H1 locs1 (cells + mc) (slots + ms) Q (F0 m (pc + 3) ls (.int r :: rest))) : W p l e R s m args below meth c H locs cells slots Q (F0 m pc ls st0) :=
  va_calli (va_runV S hM (cwV n S.2.2.2.2 g rfl hr0.1 hr0.2 hd hR) ⟨kr_blw, hrecv, fun U hU hW => ⟨rfl, by rw [hU], by rw [hU]; exact hP, va_K.moved hW.alike hK, hD.weaken (fun _ _ _ _ => trivial)⟩⟩ rfl hn hsize hst (lv_room (pc := pc) (ls := ls) (m := m) (rest := st0) hW) hdg hf) hS (fun q _ h => kr_fr hD hS hA q h) (kr_fr hD hS hA)
    (fun r u t H1 locs1 ht hvm hp hB hz hk hS1 => kk r u H1 locs1 hp (by rw [← ht]; exact hB.1) (hB.2.2.weaken (fun _ _ _ h => kr_fr hD hS hA _ h)) hS1)
theorem kr_wvV {V : Type} {own C : String} {idx maxL nL n mc ms : Nat} {y : MethodName} {bytes : ByteArray} {ret : Option FieldType} {rm : Room} {b : Addr} {As : List Value} {H0 : Heap} {wq : V → va_W} {post : V → Prop} (S : CallFix p m c cc nL s args kr_all own) (hM : Met l y (Cond.code y bytes maxL ret :: kr_all) rm (va_Pc (.ref b :: As) (kr_Rw D ws cy H.size)) (va_Qv post (fun u t => kr_Rq D (wq u) cy (va_A ws H.size) t) (va_A ws H.size)) mc ms (va_A ws H.size)) (g : GoodIn kr_all (wsV own idx C y (Cond.code y bytes maxL ret :: kr_all))) (hr0 : rm.cells = mc ∧ rm.slots = ms)
    (hd : y.cls = C ∧ y.cls ≠ "java/lang/invoke/MethodHandle" ∧ y.cls ≠ "java/lang/invoke/VarHandle" ∧ (parseMethodDescriptor y.desc).map (fun d => d.parameters.length) = some n) (hR : rm.frames + 1 ≤ R.frames ∧ 8 + (maxL + 11) + rm.locals ≤ R.locals) (hrecv : ∃ cellB : Cell, H[b]? = some cellB ∧ cellB.vm.isStatics = false ∧ s.vm.findClass C = some cellB.cls) (hP : va_P D vwCl ws H) (hK : va_K D vwCl [(cy, .int)] s) (hD : va_D AA ws) (hS : va_S AA H0 H locs) (hA : ∀ q : Nat, H0.size ≤ q → AA q) (hn : As.length = n) (hsize : ls.size = nL) (hst : st0 = As.reverse ++ .ref b :: rest) (hW : (rest.map fun v => v.category).sum ≤ 8) (hdg : decode cc pc = .ok (.invokevirtual idx, 3)) (hf : cells + mc ≤ R.cells ∧ slots + ms ≤ R.slots)
    (kk : ∀ (u : V) (H1 : Heap) (locs1 : List Loc), post u → va_P D vwCl (wq u) H1 → va_D AA (wq u) → va_S AA H0 H1 locs1 → W p l e R s m args below meth c H1 locs1 (cells + mc) (slots + ms) Q (F0 m (pc + 3) ls rest)) : W p l e R s m args below meth c H locs cells slots Q (F0 m pc ls st0) :=
  va_callv (va_runV S hM (cwV n S.2.2.2.2 g rfl hr0.1 hr0.2 hd hR) ⟨kr_blw, hrecv, fun U hU hW => ⟨rfl, by rw [hU], by rw [hU]; exact hP, va_K.moved hW.alike hK, hD.weaken (fun _ _ _ _ => trivial)⟩⟩ rfl hn hsize hst (lv_room (pc := pc) (ls := ls) (m := m) (rest := st0) hW) hdg hf) hS (fun q _ h => kr_fr hD hS hA q h) (kr_fr hD hS hA)
    (fun u t H1 locs1 ht hvm hp hB hz hk hS1 => kk u H1 locs1 hp (by rw [← ht]; exact hB.1) (hB.2.2.weaken (fun _ _ _ h => kr_fr hD hS hA _ h)) hS1)
end KRWW
/-! the states behind the calls that write -/
theorem kr_upS (A : Nat → Nat → Int32) (i : Nat) (f : Nat → Int32) : kr_up A i f i = f := if_pos rfl
theorem kr_upN (A : Nat → Nat → Int32) {i j : Nat} (f : Nat → Int32) (h : j ≠ i) : kr_up A i f j = A j := if_neg h
theorem kr_up_sw (A : Nat → Nat → Int32) {i j : Nat} (f g : Nat → Int32) (h : i ≠ j) : kr_up (kr_up A i f) j g = kr_up (kr_up A j g) i f := by
  funext k
  unfold kr_up
  by_cases h1 : k = j
  · rw [if_pos h1, if_neg (by omega), if_pos h1]
  · rw [if_neg h1]
    by_cases h2 : k = i
    · rw [if_pos h2, if_pos h2]
    · rw [if_neg h2, if_neg h2, if_neg h1]
theorem kr_up_tw (A : Nat → Nat → Int32) (i : Nat) (f g : Nat → Int32) : kr_up (kr_up A i f) i g = kr_up A i g := by
  funext k
  unfold kr_up
  by_cases h1 : k = i
  · rw [if_pos h1, if_pos h1]
  · rw [if_neg h1, if_neg h1, if_neg h1]
theorem kr_up_id (A : Nat → Nat → Int32) (i : Nat) : kr_up A i (A i) = A := by
  funext k
  unfold kr_up
  by_cases h1 : k = i
  · rw [if_pos h1, h1]
  · rw [if_neg h1]
theorem kr_upd_tw (f : Nat → Int32) (k : Nat) (x y : Int32) : upd (upd f k x) k y = upd f k y := by
  funext j
  by_cases h : j = k
  · rw [h, pk_us, pk_us]
  · rw [pk_un h, pk_un h, pk_un h]
theorem kr_upd_id (f : Nat → Int32) (k : Nat) : upd f k (f k) = f := by
  funext j
  by_cases h : j = k
  · rw [h, pk_us]
  · rw [pk_un h]
def kr_aA (A : Nat → Nat → Int32) (N : Nat) (x y z : Int32) : Nat → Nat → Int32 := kr_up (kr_up (kr_up (kr_up (kr_up A 0 (upd (A 0) N x)) 1 (upd (A 1) N y)) 2 (upd (A 2) N z)) 3 (upd (A 3) N 0)) 4 (upd (A 4) N (-1))
def kr_sA (A : Nat → Nat → Int32) (k : Nat) (y z : Int32) : Nat → Nat → Int32 := kr_up (kr_up A 3 (upd (A 3) k y)) 4 (upd (A 4) k z)
def kr_jA (A : Nat → Nat → Int32) (q r k : Nat) (z : Int32) : Nat → Nat → Int32 := kr_up (kr_up (kr_up A 6 (upd (A 6) (5 * q + r) (nI k))) 7 (upd (A 7) (5 * q + r) z)) 5 (upd (A 5) q (nI (r + 1)))
def kr_tA (A : Nat → Nat → Int32) (L k : Nat) (z : Int32) : Nat → Nat → Int32 := kr_jA A L 0 k z
def kr_rA (A : Nat → Nat → Int32) (i k : Nat) : Nat → Nat → Int32 := kr_up A 6 (upd (A 6) i (nI k))
def kr_pr' (A : Nat → Nat → Int32) (q : Nat) (ld : Int32) : Nat := if kr_gw A q ld = -1 then kr_rc A q else kr_ix (kr_gw A q ld)
def kr_pf (A : Nat → Nat → Int32) (q : Nat) (ld : Int32) (i : Nat) : Nat → Int32 := fun j => if 5 * q ≤ j ∧ j < 5 * q + i then kr_fm A ld 16 (A 6 j) else A 6 j
def kr_pB (A : Nat → Nat → Int32) (q : Nat) (ld : Int32) (i : Nat) : Nat → Nat → Int32 := kr_up (kr_up A 5 (upd (A 5) q (nI (kr_pr' A q ld)))) 6 (kr_pf A q ld i)
def kr_pA (A : Nat → Nat → Int32) (q : Nat) (ld : Int32) : Nat → Nat → Int32 := kr_pB A q ld (kr_pr' A q ld)
section KRP
variable {N L : Nat} {A : Nat → Nat → Int32} {ld : Int32} {q : Nat}
theorem kr_pf_0 : kr_pf A q ld 0 = A 6 := by
  funext j; unfold kr_pf; rw [if_neg (by omega)]
theorem kr_pf_at (i : Nat) : kr_pf A q ld i (5 * q + i) = A 6 (5 * q + i) := by unfold kr_pf; rw [if_neg (by omega)]
theorem kr_pf_s (i : Nat) : upd (kr_pf A q ld i) (5 * q + i) (kr_fm A ld 16 (A 6 (5 * q + i))) = kr_pf A q ld (i + 1) := by
  funext j
  by_cases h : j = 5 * q + i
  · rw [h, pk_us]; unfold kr_pf; rw [if_pos (by omega)]
  · rw [pk_un h]; unfold kr_pf
    by_cases h2 : 5 * q ≤ j ∧ j < 5 * q + i
    · rw [if_pos h2, if_pos (by omega)]
    · rw [if_neg h2, if_neg (by omega)]
/-- where a place gives way, it is one of the line's, and all ahead of it hold; where none does, all hold -/
theorem kr_fg_sp : ∀ (n pl : Nat), pl + n < 2 ^ 31 → (kr_fg A q ld n pl = -1 ∧ ∀ j, pl ≤ j → j < pl + n → kr_ph A q ld j) ∨ ∃ g, pl ≤ g ∧ g < pl + n ∧ kr_fg A q ld n pl = nI g ∧ ∀ j, pl ≤ j → j < g → kr_ph A q ld j
  | 0, pl, _ => Or.inl ⟨rfl, fun j h1 h2 => by omega⟩
  | n + 1, pl, h => by
    by_cases hp : kr_ph A q ld pl
    · have e : kr_fg A q ld (n + 1) pl = kr_fg A q ld n (pl + 1) := if_pos hp
      rw [e]
      rcases kr_fg_sp n (pl + 1) (by omega) with ⟨h1, h2⟩ | ⟨g, h1, h2, h3, h4⟩
      · refine Or.inl ⟨h1, fun j h3 h4 => ?_⟩
        by_cases hj : j = pl
        · rw [hj]; exact hp
        · exact h2 j (by omega) (by omega)
      · refine Or.inr ⟨g, by omega, by omega, h3, fun j h5 h6 => ?_⟩
        by_cases hj : j = pl
        · rw [hj]; exact hp
        · exact h4 j (by omega) (by omega)
    · have e : kr_fg A q ld (n + 1) pl = nI pl := if_neg hp
      exact Or.inr ⟨pl, Nat.le_refl _, by omega, e, fun j h1 h2 => by omega⟩
theorem kr_pr_le (h : kr_rc A q ≤ 5) : kr_pr' A q ld ≤ kr_rc A q ∧ ∀ j, j < kr_pr' A q ld → kr_ph A q ld j := by
  unfold kr_pr'
  rcases kr_fg_sp (A := A) (q := q) (ld := ld) (kr_rc A q) 0 (by omega) with ⟨h1, h2⟩ | ⟨g, h1, h2, h3, h4⟩
  · rw [if_pos (show kr_gw A q ld = -1 from h1)]; exact ⟨Nat.le_refl _, fun j hj => h2 j (Nat.zero_le _) (by omega)⟩
  · have e : kr_gw A q ld = nI g := h3
    rw [e, if_neg (kr_kn_ne (by omega)), kr_ix_nI (by omega)]
    exact ⟨by omega, fun j hj => h4 j (Nat.zero_le _) hj⟩
theorem kr_gw_kn (h : kr_rc A q ≤ 5) : kr_gw A q ld = -1 ∨ ∃ g, g < kr_rc A q ∧ kr_gw A q ld = nI g := by
  rcases kr_fg_sp (A := A) (q := q) (ld := ld) (kr_rc A q) 0 (by omega) with ⟨h1, h2⟩ | ⟨g, h1, h2, h3, h4⟩
  · exact Or.inl h1
  · exact Or.inr ⟨g, by omega, h3⟩
theorem kr_fm_cg {A' : Nat → Nat → Int32} (h3 : A' 3 = A 3) (h4 : A' 4 = A 4) : ∀ (n : Nat) (x : Int32), kr_fm A' ld n x = kr_fm A ld n x
  | 0, _ => rfl
  | n + 1, x => by
    rw [kr_fm_e, kr_fm_e, h4, kr_fm_cg h3 h4 n]
    unfold kr_go
    rw [h3]
/-- the order of the rows, kept by the calls that write -/
theorem kr_wf_a (hw : kr_wf N L A) (hN : N < 16) {x y z : Int32} (hx : x = 0 ∨ x = 1) : kr_wf (N + 1) L (kr_aA A N x y z) := by
  obtain ⟨h1, h2, h3, h4⟩ := hw
  refine ⟨by omega, h2, fun k hk => ?_, fun l hl => ?_⟩
  · show (upd (A 0) N x k = 0 ∨ upd (A 0) N x k = 1) ∧ (upd (A 4) N (-1) k = -1 ∨ ∃ j, j < k ∧ upd (A 4) N (-1) k = nI j) ∧ (∃ q, q ≤ 999 ∧ upd (A 3) N 0 k = nI q) ∧ (upd (A 3) N 0 k = 0 → upd (A 4) N (-1) k = -1)
    by_cases e : k = N
    · subst e; rw [pk_us, pk_us, pk_us]; exact ⟨hx, Or.inl rfl, ⟨0, by omega, rfl⟩, fun _ => rfl⟩
    · rw [pk_un e, pk_un e, pk_un e]; exact h3 k (by omega)
  · obtain ⟨r, a1, a2, a3⟩ := h4 l hl
    refine ⟨r, a1, a2, fun pl hp => ?_⟩
    obtain ⟨k, b1, b2⟩ := a3 pl hp
    exact ⟨k, by omega, b2⟩
theorem kr_wf_s (hw : kr_wf N L A) {k : Nat} (hk : k < N) {y z : Int32} (hy : ¬ y < 1 ∧ ¬ 999 < y) (hz : z = -1 ∨ ∃ j, j < k ∧ z = nI j) : kr_wf N L (kr_sA A k y z) := by
  obtain ⟨h1, h2, h3, h4⟩ := hw
  refine ⟨h1, h2, fun i hi => ?_, h4⟩
  show (A 0 i = 0 ∨ A 0 i = 1) ∧ (upd (A 4) k z i = -1 ∨ ∃ j, j < i ∧ upd (A 4) k z i = nI j) ∧ (∃ q, q ≤ 999 ∧ upd (A 3) k y i = nI q) ∧ (upd (A 3) k y i = 0 → upd (A 4) k z i = -1)
  by_cases e : i = k
  · subst e; rw [pk_us, pk_us]
    have hy0 : ¬ y < 0 := fun h => hy.1 (by
      rw [Int32.lt_iff_toInt_lt] at h ⊢
      rw [show (0 : Int32).toInt = 0 by decide] at h
      rw [show (1 : Int32).toInt = 1 by decide]; omega)
    obtain ⟨q, q1, q2⟩ := nI_of2 (M := 999) (n := 999) (by decide) hy0 (Int32.not_lt.mp hy.2)
    refine ⟨(h3 i hi).1, hz, ⟨q, q1, q2⟩, fun h0 => ?_⟩
    rw [h0] at hy; exact absurd hy.1 (by decide)
  · rw [pk_un e, pk_un e]; exact h3 i hi
theorem kr_wf_r (hw : kr_wf N L A) {i k : Nat} (hk : k < N) : kr_wf N L (kr_rA A i k) := by
  obtain ⟨h1, h2, h3, h4⟩ := hw
  refine ⟨h1, h2, h3, fun l hl => ?_⟩
  obtain ⟨r, a1, a2, a3⟩ := h4 l hl
  refine ⟨r, a1, a2, fun pl hp => ?_⟩
  show ∃ j, j < N ∧ upd (A 6) i (nI k) (5 * l + pl) = nI j
  by_cases e : 5 * l + pl = i
  · rw [e, pk_us]; exact ⟨k, hk, rfl⟩
  · rw [pk_un e]; exact a3 pl hp
theorem kr_wf_j (hw : kr_wf N L A) {k r : Nat} (hk : k < N) (hr : r < 5) (hq : q < L) (er : A 5 q = nI r) {z : Int32} : kr_wf N L (kr_jA A q r k z) := by
  obtain ⟨h1, h2, h3, h4⟩ := hw
  refine ⟨h1, h2, h3, fun l hl => ?_⟩
  obtain ⟨r2, a1, a2, a3⟩ := h4 l hl
  show ∃ r', r' ≤ 5 ∧ upd (A 5) q (nI (r + 1)) l = nI r' ∧ ∀ pl, pl < r' → ∃ j, j < N ∧ upd (A 6) (5 * q + r) (nI k) (5 * l + pl) = nI j
  by_cases e : l = q
  · subst e
    rw [pk_us]
    have e2 : r2 = r := (nI_eq (by omega) (by omega)).mp (a2.symm.trans er)
    refine ⟨r + 1, by omega, rfl, fun pl hp => ?_⟩
    by_cases e3 : pl = r
    · rw [e3, pk_us]; exact ⟨k, hk, rfl⟩
    · rw [pk_un (by omega)]; exact a3 pl (by omega)
  · rw [pk_un e]
    refine ⟨r2, a1, a2, fun pl hp => ?_⟩
    rw [pk_un (by omega)]; exact a3 pl hp
theorem kr_wf_t (hw : kr_wf N L A) {k : Nat} (hk : k < N) (hL : L < 6) {z : Int32} : kr_wf N (L + 1) (kr_tA A L k z) := by
  obtain ⟨h1, h2, h3, h4⟩ := hw
  refine ⟨h1, by omega, h3, fun l hl => ?_⟩
  show ∃ r', r' ≤ 5 ∧ upd (A 5) L (nI (0 + 1)) l = nI r' ∧ ∀ pl, pl < r' → ∃ j, j < N ∧ upd (A 6) (5 * L + 0) (nI k) (5 * l + pl) = nI j
  by_cases e : l = L
  · subst e
    rw [pk_us]
    refine ⟨1, by omega, rfl, fun pl hp => ?_⟩
    rw [show pl = 0 by omega, pk_us]; exact ⟨k, hk, rfl⟩
  · obtain ⟨r2, a1, a2, a3⟩ := h4 l (by omega)
    rw [pk_un e]
    refine ⟨r2, a1, a2, fun pl hp => ?_⟩
    rw [pk_un (by omega)]; exact a3 pl hp
theorem kr_wf_p (hw : kr_wf N L A) (hq : q < L) {i : Nat} (hi : i ≤ kr_pr' A q ld) : kr_wf N L (kr_pB A q ld i) := by
  obtain ⟨hrc, er⟩ := hw.rc hq
  obtain ⟨p1, p2⟩ := kr_pr_le (ld := ld) hrc
  have hw0 := hw
  obtain ⟨h1, h2, h3, h4⟩ := hw
  refine ⟨h1, h2, h3, fun l hl => ?_⟩
  obtain ⟨r2, a1, a2, a3⟩ := h4 l hl
  show ∃ r', r' ≤ 5 ∧ upd (A 5) q (nI (kr_pr' A q ld)) l = nI r' ∧ ∀ pl, pl < r' → ∃ j, j < N ∧ kr_pf A q ld i (5 * l + pl) = nI j
  by_cases e : l = q
  · subst e
    rw [pk_us]
    refine ⟨kr_pr' A l ld, by omega, rfl, fun pl hp => ?_⟩
    unfold kr_pf
    by_cases hpi : pl < i
    · rw [if_pos (by omega)]
      exact kr_kn_of h1 (kr_fm_kn hw0 16 _ (hw0.tn hq (by omega))) (p2 pl hp).1
    · rw [if_neg (by omega)]
      exact hw0.tk hq (by omega)
  · rw [pk_un e]
    refine ⟨r2, a1, a2, fun pl hp => ?_⟩
    unfold kr_pf
    rw [if_neg (by omega)]; exact a3 pl hp
end KRP
section KRP2
variable {N L : Nat} {A : Nat → Nat → Int32} {ld : Int32} {q : Nat}
theorem kr_pB0n (h : kr_gw A q ld = -1) (er : A 5 q = nI (kr_rc A q)) : kr_pB A q ld 0 = A := by
  unfold kr_pB kr_pr'
  rw [if_pos h, ← er, kr_upd_id, kr_up_id, kr_pf_0, kr_up_id]
theorem kr_pB0y {g : Nat} (hg : g < 2 ^ 31) (h : kr_gw A q ld = nI g) : kr_pB A q ld 0 = kr_up A 5 (upd (A 5) q (nI g)) := by
  unfold kr_pB kr_pr'
  rw [h, if_neg (kr_kn_ne hg), kr_ix_nI hg, kr_pf_0]
  exact kr_up_id (kr_up A 5 (upd (A 5) q (nI g))) 6
theorem kr_pBs (i : Nat) : kr_up (kr_pB A q ld i) 6 (upd (kr_pB A q ld i 6) (5 * q + i) (kr_fm A ld 16 (A 6 (5 * q + i)))) = kr_pB A q ld (i + 1) := by
  rw [show kr_pB A q ld i 6 = kr_pf A q ld i from kr_upS _ 6 _, kr_pf_s]
  exact kr_up_tw _ 6 _ _
theorem kr_pB5 (i : Nat) : kr_pB A q ld i 5 q = nI (kr_pr' A q ld) := pk_us
theorem kr_pB6 (i : Nat) : kr_pB A q ld i 6 (5 * q + i) = A 6 (5 * q + i) := kr_pf_at i
theorem kr_pBf (i n : Nat) (x : Int32) : kr_fm (kr_pB A q ld i) ld n x = kr_fm A ld n x := kr_fm_cg (A := A) (A' := kr_pB A q ld i) (show kr_pB A q ld i 3 = A 3 from rfl) (show kr_pB A q ld i 4 = A 4 from rfl) n x
/-- tie, as the class does it and as the model does it -/
theorem kr_tA0 (L k : Nat) (z : Int32) : kr_jA (kr_up A 5 (upd (A 5) L 0)) L 0 k z = kr_tA A L k z := by
  unfold kr_tA kr_jA
  rw [show kr_up A 5 (upd (A 5) L 0) 6 = A 6 from rfl, show kr_up A 5 (upd (A 5) L 0) 7 = A 7 from rfl, show kr_up A 5 (upd (A 5) L 0) 5 = upd (A 5) L 0 from rfl, kr_upd_tw]
  rw [kr_up_sw A _ _ (show 5 ≠ 6 by decide), kr_up_sw (kr_up A 6 _) _ _ (show 5 ≠ 7 by decide), kr_up_tw]
end KRP2
end
section
set_option maxHeartbeats 4000000 in
set_option maxRecDepth 100000 in
theorem c_X0_appendRope (l : Launch) (D : va_G) (cy : ClassId) (h : Nat) (a : Nat → Nat) (N L : Nat) (A : Nat → Nat → Int32) (sz : Nat) (q r k : Nat) (z : Int32) (hq : q < 6) (hr5 : r < 5) (er : A 5 q = nI r) : Met l yX0_appendRope (Cond.code yX0_appendRope cX0_appendRope 5 none :: kr_all) ({ frames := 1, cells := 0, slots := 0, locals := 21 }) (va_Pc [.ref h, .int (nI q), .int (nI k), .int z] (kr_Rw D (kr_W0 cy h a N L A) cy sz)) (va_Qv (fun (_ : Unit) => True) (fun _ t => kr_Rq D (kr_W0 cy h a N L (kr_jA A q r k z)) cy (va_A (kr_W0 cy h a N L A) sz) t) (va_A (kr_W0 cy h a N L A) sz)) 0 0 (va_A (kr_W0 cy h a N L A) sz) := by
  refine kr_ofw (Qc := fun AA => va_Qv (fun (_ : Unit) => True) (fun _ t => kr_Rq D (kr_W0 cy h a N L (kr_jA A q r k z)) cy AA t) AA) (by decide) (Nat.le_of_ble_eq_true rfl) ?_
  intro p e s m below meth c ls AA hx hb hml hr hts hown hlocks hin hA hP hK hD hS hl
  have hown : s.vm.findClass RX0 = some m.cls := hown
  have hl : lv_has ls 5 [(0, .ref h), (1, .int (nI q)), (2, .int (nI k)), (3, .int z)] := hl
  refine lv_iload_n hx hb dX0_appendRope_0 rfl (lv_at hl 1 rfl) ?_
  refine lv_aload_n hx hb dX0_appendRope_1 rfl (lv_at hl 0 rfl) ?_
  refine va_get (ci := 0) (v := .ref (a 5)) (C := RX0) (T := TX0) (N := 10) hx hb hts kr_wsX0 hown hK hP 0 rfl rfl 6 (by decide) (hts _ kq_48) (fun _ h9 => h9) rfl dX0_appendRope_2 ?_
  refine lv_iload_n hx hb dX0_appendRope_5 rfl (lv_at hl 1 rfl) ?_
  refine kr_ald hx hb hK hP 6 0 rfl rfl q (by omega) (by decide) dX0_appendRope_6 ?_
  rw [er]
  refine kr_sI (n := 2) (As := [.int (nI q), .int (nI r)]) (rest := []) ⟨hx, hb, hml, hown, hts⟩ (c_X0_slot l q r) kg_RX0_97 ⟨rfl, rfl⟩ (by decide +kernel) ⟨Nat.le_of_ble_eq_true rfl, Nat.le_of_ble_eq_true rfl⟩ ⟨kr_blT, fun U hU hW => ⟨rfl, trivial⟩⟩ rfl hl.1 rfl (Nat.le_of_ble_eq_true rfl) dX0_appendRope_7 ⟨Nat.zero_le _, Nat.zero_le _⟩ (fun r9 e9 => ?_)
  subst e9
  refine lv_istore (lv' := [(4, .int (nI (5 * q + r))), (0, .ref h), (1, .int (nI q)), (2, .int (nI k)), (3, .int z)]) hx hb dX0_appendRope_10 hl (by decide) rfl (fun ls hl => ?_)
  refine lv_aload_n hx hb dX0_appendRope_12 rfl (lv_at hl 1 rfl) ?_
  refine va_get (ci := 0) (v := .ref (a 6)) (C := RX0) (T := TX0) (N := 10) hx hb hts kr_wsX0 hown hK hP 0 rfl rfl 8 (by decide) (hts _ kq_50) (fun _ h9 => h9) rfl dX0_appendRope_13 ?_
  refine lv_iload hx hb dX0_appendRope_16 (lv_at hl 0 rfl) ?_
  refine lv_iload_n hx hb dX0_appendRope_18 rfl (lv_at hl 3 rfl) ?_
  refine kr_ast hx hb hK hP hD hS 7 0 rfl rfl (5 * q + r) (by omega) (by decide) dX0_appendRope_19 (fun H locs hP hD hS => ?_)
  have hP : va_P D vwCl (kr_W0 cy h a N L (kr_up A 6 (upd (A 6) (5 * q + r) (nI k)))) H := hP
  have hD : va_D AA (kr_W0 cy h a N L (kr_up A 6 (upd (A 6) (5 * q + r) (nI k)))) := hD
  refine lv_aload_n hx hb dX0_appendRope_20 rfl (lv_at hl 1 rfl) ?_
  refine va_get (ci := 0) (v := .ref (a 7)) (C := RX0) (T := TX0) (N := 10) hx hb hts kr_wsX0 hown hK hP 0 rfl rfl 9 (by decide) (hts _ kq_51) (fun _ h9 => h9) rfl dX0_appendRope_21 ?_
  refine lv_iload hx hb dX0_appendRope_24 (lv_at hl 0 rfl) ?_
  refine lv_iload_n hx hb dX0_appendRope_26 rfl (lv_at hl 4 rfl) ?_
  refine kr_ast hx hb hK hP hD hS 8 0 rfl rfl (5 * q + r) (by omega) (by decide) dX0_appendRope_27 (fun H locs hP hD hS => ?_)
  have hP : va_P D vwCl (kr_W0 cy h a N L (kr_up (kr_up A 6 (upd (A 6) (5 * q + r) (nI k))) 7 (upd (A 7) (5 * q + r) z))) H := hP
  have hD : va_D AA (kr_W0 cy h a N L (kr_up (kr_up A 6 (upd (A 6) (5 * q + r) (nI k))) 7 (upd (A 7) (5 * q + r) z))) := hD
  refine lv_aload_n hx hb dX0_appendRope_28 rfl (lv_at hl 1 rfl) ?_
  refine va_get (ci := 0) (v := .ref (a 5)) (C := RX0) (T := TX0) (N := 10) hx hb hts kr_wsX0 hown hK hP 0 rfl rfl 6 (by decide) (hts _ kq_48) (fun _ h9 => h9) rfl dX0_appendRope_29 ?_
  refine lv_iload_n hx hb dX0_appendRope_32 rfl (lv_at hl 2 rfl) ?_
  refine lv_dup2_11 hx hb dX0_appendRope_33 rfl rfl ?_
  refine kr_ald hx hb hK hP 6 0 rfl rfl q (by omega) (by decide) dX0_appendRope_34 ?_
  show W _ _ _ _ _ _ _ _ _ _ _ _ _ _ _ (F0 _ _ _ (.int (A 5 q) :: _))
  rw [er]
  refine lv_iconst (v := 1) hx hb dX0_appendRope_35 (by decide) ?_
  refine kr_iaddN hx hb r 1 dX0_appendRope_36 ?_
  refine kr_ast hx hb hK hP hD hS 6 0 rfl rfl q (by omega) (by decide) dX0_appendRope_37 (fun H locs hP hD hS => ?_)
  have hP : va_P D vwCl (kr_W0 cy h a N L (kr_up (kr_up (kr_up A 6 (upd (A 6) (5 * q + r) (nI k))) 7 (upd (A 7) (5 * q + r) z)) 5 (upd (A 5) q (nI (r + 1))))) H := hP
  have hD : va_D AA (kr_W0 cy h a N L (kr_up (kr_up (kr_up A 6 (upd (A 6) (5 * q + r) (nI k))) 7 (upd (A 7) (5 * q + r) z)) 5 (upd (A 5) q (nI (r + 1))))) := hD
  exact kr_wV hx hb hr hlocks hP hK hD hS trivial dX0_appendRope_38
set_option maxHeartbeats 4000000 in
set_option maxRecDepth 100000 in
theorem c_X0_addKnot (l : Launch) (D : va_G) (cy : ClassId) (h : Nat) (a : Nat → Nat) (N L : Nat) (A : Nat → Nat → Int32) (sz : Nat) (x y z : Int32) (hx0 : x = 0 ∨ x = 1) (hy : ¬ y < 10 ∧ ¬ 100 < y) (hz : ¬ z < 1 ∧ ¬ 9 < z) (hN : N < 16) : Met l yX0_addKnot (Cond.code yX0_addKnot cX0_addKnot 5 (some .int) :: kr_all) ({ frames := 1, cells := 0, slots := 0, locals := 20 }) (va_Pc [.ref h, .int x, .int y, .int z] (kr_Rw D (kr_W0 cy h a N L A) cy sz)) (va_Qi (fun r (_ : Unit) => r = nI N) (fun _ t => kr_Rq D (kr_W0 cy h a (N + 1) L (kr_aA A N x y z)) cy (va_A (kr_W0 cy h a N L A) sz) t) (va_A (kr_W0 cy h a N L A) sz)) 0 0 (va_A (kr_W0 cy h a N L A) sz) := by
  refine kr_ofw (Qc := fun AA => va_Qi (fun r (_ : Unit) => r = nI N) (fun _ t => kr_Rq D (kr_W0 cy h a (N + 1) L (kr_aA A N x y z)) cy AA t) AA) (by decide) (Nat.le_of_ble_eq_true rfl) ?_
  intro p e s m below meth c ls AA hx hb hml hr hts hown hlocks hin hA hP hK hD hS hl
  have hown : s.vm.findClass RX0 = some m.cls := hown
  have hl : lv_has ls 5 [(0, .ref h), (1, .int x), (2, .int y), (3, .int z)] := hl
  refine lv_iload_n hx hb dX0_addKnot_0 rfl (lv_at hl 1 rfl) ?_
  refine kr_sV (n := 1) (As := [.int x]) (rest := []) ⟨hx, hb, hml, hown, hts⟩ (c_X0_checkKind l x (by assumption)) kg_RX0_41 ⟨rfl, rfl⟩ (by decide +kernel) ⟨Nat.le_of_ble_eq_true rfl, Nat.le_of_ble_eq_true rfl⟩ ⟨kr_blT, fun U hU hW => ⟨rfl, trivial⟩⟩ rfl hl.1 rfl (Nat.le_of_ble_eq_true rfl) dX0_addKnot_1 ⟨Nat.zero_le _, Nat.zero_le _⟩ ?_
  refine lv_iload_n hx hb dX0_addKnot_4 rfl (lv_at hl 2 rfl) ?_
  refine lv_bipush (v := 10) hx hb dX0_addKnot_5 (by decide) ?_
  refine lv_icmp_lt (tgt := 16) hx hb dX0_addKnot_7 (by decide) (fun c7 => absurd c7 hy.1) (fun c7 => ?_)
  refine lv_iload_n hx hb dX0_addKnot_10 rfl (lv_at hl 2 rfl) ?_
  refine lv_bipush (v := 100) hx hb dX0_addKnot_11 (by decide) ?_
  refine lv_icmp_le (tgt := 26) hx hb dX0_addKnot_13 (by decide) (fun c13 => ?_) (fun c13 => absurd (kr_nle2 c13) hy.2)
  refine lv_iload_n hx hb dX0_addKnot_26 rfl (lv_at hl 3 rfl) ?_
  refine lv_iconst (v := 1) hx hb dX0_addKnot_27 (by decide) ?_
  refine lv_icmp_lt (tgt := 37) hx hb dX0_addKnot_28 (by decide) (fun c28 => absurd c28 hz.1) (fun c28 => ?_)
  refine lv_iload_n hx hb dX0_addKnot_31 rfl (lv_at hl 3 rfl) ?_
  refine lv_bipush (v := 9) hx hb dX0_addKnot_32 (by decide) ?_
  refine lv_icmp_le (tgt := 47) hx hb dX0_addKnot_34 (by decide) (fun c34 => ?_) (fun c34 => absurd (kr_nle2 c34) hz.2)
  refine lv_aload_n hx hb dX0_addKnot_47 rfl (lv_at hl 0 rfl) ?_
  refine va_get (ci := 0) (v := .int (nI N)) (C := RX0) (T := TX0) (N := 10) hx hb hts kr_wsX0 hown hK hP 0 rfl rfl 5 (by decide) (hts _ kq_47) (fun _ h9 => h9) rfl dX0_addKnot_48 ?_
  refine lv_bipush (v := 16) hx hb dX0_addKnot_51 (by decide) ?_
  refine lv_icmp_lt (tgt := 66) hx hb dX0_addKnot_53 (by decide) (fun c53 => ?_) (fun c53 => absurd (nI_lt (b := 16) hN (by decide)) c53)
  refine lv_aload_n hx hb dX0_addKnot_66 rfl (lv_at hl 0 rfl) ?_
  refine va_get (ci := 0) (v := .int (nI N)) (C := RX0) (T := TX0) (N := 10) hx hb hts kr_wsX0 hown hK hP 0 rfl rfl 5 (by decide) (hts _ kq_47) (fun _ h9 => h9) rfl dX0_addKnot_67 ?_
  refine lv_istore (lv' := [(4, .int (nI N)), (0, .ref h), (1, .int x), (2, .int y), (3, .int z)]) hx hb dX0_addKnot_70 hl (by decide) rfl (fun ls hl => ?_)
  refine lv_aload_n hx hb dX0_addKnot_72 rfl (lv_at hl 1 rfl) ?_
  refine va_get (ci := 0) (v := .ref (a 0)) (C := RX0) (T := TX0) (N := 10) hx hb hts kr_wsX0 hown hK hP 0 rfl rfl 0 (by decide) (hts _ kq_42) (fun _ h9 => h9) rfl dX0_addKnot_73 ?_
  refine lv_iload hx hb dX0_addKnot_76 (lv_at hl 0 rfl) ?_
  refine lv_iload_n hx hb dX0_addKnot_78 rfl (lv_at hl 2 rfl) ?_
  refine kr_ast hx hb hK hP hD hS 1 0 rfl rfl N (by omega) (by decide) dX0_addKnot_79 (fun H locs hP hD hS => ?_)
  have hP : va_P D vwCl (kr_W0 cy h a N L (kr_up A 0 (upd (A 0) N x))) H := hP
  have hD : va_D AA (kr_W0 cy h a N L (kr_up A 0 (upd (A 0) N x))) := hD
  refine lv_aload_n hx hb dX0_addKnot_80 rfl (lv_at hl 1 rfl) ?_
  refine va_get (ci := 0) (v := .ref (a 1)) (C := RX0) (T := TX0) (N := 10) hx hb hts kr_wsX0 hown hK hP 0 rfl rfl 1 (by decide) (hts _ kq_43) (fun _ h9 => h9) rfl dX0_addKnot_81 ?_
  refine lv_iload hx hb dX0_addKnot_84 (lv_at hl 0 rfl) ?_
  refine lv_iload_n hx hb dX0_addKnot_86 rfl (lv_at hl 3 rfl) ?_
  refine kr_ast hx hb hK hP hD hS 2 0 rfl rfl N (by omega) (by decide) dX0_addKnot_87 (fun H locs hP hD hS => ?_)
  have hP : va_P D vwCl (kr_W0 cy h a N L (kr_up (kr_up A 0 (upd (A 0) N x)) 1 (upd (A 1) N y))) H := hP
  have hD : va_D AA (kr_W0 cy h a N L (kr_up (kr_up A 0 (upd (A 0) N x)) 1 (upd (A 1) N y))) := hD
  refine lv_aload_n hx hb dX0_addKnot_88 rfl (lv_at hl 1 rfl) ?_
  refine va_get (ci := 0) (v := .ref (a 2)) (C := RX0) (T := TX0) (N := 10) hx hb hts kr_wsX0 hown hK hP 0 rfl rfl 2 (by decide) (hts _ kq_44) (fun _ h9 => h9) rfl dX0_addKnot_89 ?_
  refine lv_iload hx hb dX0_addKnot_92 (lv_at hl 0 rfl) ?_
  refine lv_iload_n hx hb dX0_addKnot_94 rfl (lv_at hl 4 rfl) ?_
  refine kr_ast hx hb hK hP hD hS 3 0 rfl rfl N (by omega) (by decide) dX0_addKnot_95 (fun H locs hP hD hS => ?_)
  have hP : va_P D vwCl (kr_W0 cy h a N L (kr_up (kr_up (kr_up A 0 (upd (A 0) N x)) 1 (upd (A 1) N y)) 2 (upd (A 2) N z))) H := hP
  have hD : va_D AA (kr_W0 cy h a N L (kr_up (kr_up (kr_up A 0 (upd (A 0) N x)) 1 (upd (A 1) N y)) 2 (upd (A 2) N z))) := hD
  refine lv_aload_n hx hb dX0_addKnot_96 rfl (lv_at hl 1 rfl) ?_
  refine va_get (ci := 0) (v := .ref (a 3)) (C := RX0) (T := TX0) (N := 10) hx hb hts kr_wsX0 hown hK hP 0 rfl rfl 3 (by decide) (hts _ kq_45) (fun _ h9 => h9) rfl dX0_addKnot_97 ?_
  refine lv_iload hx hb dX0_addKnot_100 (lv_at hl 0 rfl) ?_
  refine lv_iconst (v := 0) hx hb dX0_addKnot_102 (by decide) ?_
  refine kr_ast hx hb hK hP hD hS 4 0 rfl rfl N (by omega) (by decide) dX0_addKnot_103 (fun H locs hP hD hS => ?_)
  have hP : va_P D vwCl (kr_W0 cy h a N L (kr_up (kr_up (kr_up (kr_up A 0 (upd (A 0) N x)) 1 (upd (A 1) N y)) 2 (upd (A 2) N z)) 3 (upd (A 3) N 0))) H := hP
  have hD : va_D AA (kr_W0 cy h a N L (kr_up (kr_up (kr_up (kr_up A 0 (upd (A 0) N x)) 1 (upd (A 1) N y)) 2 (upd (A 2) N z)) 3 (upd (A 3) N 0))) := hD
  refine lv_aload_n hx hb dX0_addKnot_104 rfl (lv_at hl 1 rfl) ?_
  refine va_get (ci := 0) (v := .ref (a 4)) (C := RX0) (T := TX0) (N := 10) hx hb hts kr_wsX0 hown hK hP 0 rfl rfl 4 (by decide) (hts _ kq_46) (fun _ h9 => h9) rfl dX0_addKnot_105 ?_
  refine lv_iload hx hb dX0_addKnot_108 (lv_at hl 0 rfl) ?_
  refine lv_iconst (v := -1) hx hb dX0_addKnot_110 (by decide) ?_
  refine kr_ast hx hb hK hP hD hS 5 0 rfl rfl N (by omega) (by decide) dX0_addKnot_111 (fun H locs hP hD hS => ?_)
  have hP : va_P D vwCl (kr_W0 cy h a N L (kr_up (kr_up (kr_up (kr_up (kr_up A 0 (upd (A 0) N x)) 1 (upd (A 1) N y)) 2 (upd (A 2) N z)) 3 (upd (A 3) N 0)) 4 (upd (A 4) N (-1)))) H := hP
  have hD : va_D AA (kr_W0 cy h a N L (kr_up (kr_up (kr_up (kr_up (kr_up A 0 (upd (A 0) N x)) 1 (upd (A 1) N y)) 2 (upd (A 2) N z)) 3 (upd (A 3) N 0)) 4 (upd (A 4) N (-1)))) := hD
  refine lv_aload_n hx hb dX0_addKnot_112 rfl (lv_at hl 1 rfl) ?_
  refine lv_iload hx hb dX0_addKnot_113 (lv_at hl 0 rfl) ?_
  refine lv_iconst (v := 1) hx hb dX0_addKnot_115 (by decide) ?_
  refine kr_iaddN hx hb N 1 dX0_addKnot_116 ?_
  refine va_put (ci := 0) (v := .int (nI (N + 1))) (ty := .int) (C := RX0) (T := TX0) (N := 10) hx hb hts kr_wsX0 tyX0 tyX0_ok nmX0 hown hK hP hD hS 0 rfl rfl 5 (by decide) (hts _ kq_47) (fun _ h9 => h9) rfl (by decide +kernel) rfl rfl (Nat.le_of_ble_eq_true rfl) dX0_addKnot_117 (fun H locs hP hD hS => ?_)
  have hP : va_P D vwCl (kr_W0 cy h a (N + 1) L (kr_up (kr_up (kr_up (kr_up (kr_up A 0 (upd (A 0) N x)) 1 (upd (A 1) N y)) 2 (upd (A 2) N z)) 3 (upd (A 3) N 0)) 4 (upd (A 4) N (-1)))) H := hP
  have hD : va_D AA (kr_W0 cy h a (N + 1) L (kr_up (kr_up (kr_up (kr_up (kr_up A 0 (upd (A 0) N x)) 1 (upd (A 1) N y)) 2 (upd (A 2) N z)) 3 (upd (A 3) N 0)) 4 (upd (A 4) N (-1)))) := hD
  refine lv_iload hx hb dX0_addKnot_120 (lv_at hl 0 rfl) ?_
  exact kr_wI hx hb hr hlocks hP hK hD hS rfl dX0_addKnot_122
set_option maxHeartbeats 4000000 in
set_option maxRecDepth 100000 in
theorem c_X0_setSpill (l : Launch) (D : va_G) (cy : ClassId) (h : Nat) (a : Nat → Nat) (N L : Nat) (A : Nat → Nat → Int32) (sz : Nat) (k : Nat) (y z : Int32) (hN : N ≤ 16) (hk : k < N) (hy : ¬ y < 1 ∧ ¬ 999 < y) (hz : ¬ z < -1 ∧ z < nI k) (hz2 : z = -1 ∨ ∃ j, j < k ∧ z = nI j ∧ A 0 j = A 0 k) : Met l yX0_setSpill (Cond.code yX0_setSpill cX0_setSpill 5 (some .int) :: kr_all) ({ frames := 2, cells := 0, slots := 0, locals := 42 }) (va_Pc [.ref h, .int (nI k), .int y, .int z] (kr_Rw D (kr_W0 cy h a N L A) cy sz)) (va_Qi (fun r (_ : Unit) => r = A 3 k) (fun _ t => kr_Rq D (kr_W0 cy h a N L (kr_sA A k y z)) cy (va_A (kr_W0 cy h a N L A) sz) t) (va_A (kr_W0 cy h a N L A) sz)) 0 0 (va_A (kr_W0 cy h a N L A) sz) := by
  refine kr_ofw (Qc := fun AA => va_Qi (fun r (_ : Unit) => r = A 3 k) (fun _ t => kr_Rq D (kr_W0 cy h a N L (kr_sA A k y z)) cy AA t) AA) (by decide) (Nat.le_of_ble_eq_true rfl) ?_
  intro p e s m below meth c ls AA hx hb hml hr hts hown hlocks hin hA hP hK hD hS hl
  have hown : s.vm.findClass RX0 = some m.cls := hown
  have hl : lv_has ls 5 [(0, .ref h), (1, .int (nI k)), (2, .int y), (3, .int z)] := hl
  refine lv_aload_n hx hb dX0_setSpill_0 rfl (lv_at hl 0 rfl) ?_
  refine lv_iload_n hx hb dX0_setSpill_1 rfl (lv_at hl 1 rfl) ?_
  refine kr_vV (n := 1) (As := [.int (nI k)]) (rest := []) ⟨hx, hb, hml, hown, hts⟩ (c_X0_checkKnot l D cy h a N L A k (by omega) (by omega)) kg_RX0_59 ⟨rfl, rfl⟩ (by decide +kernel) ⟨Nat.le_of_ble_eq_true rfl, Nat.le_of_ble_eq_true rfl⟩ (kr_pv0 hP hK) rfl hl.1 rfl (Nat.le_of_ble_eq_true rfl) dX0_setSpill_2 ⟨Nat.zero_le _, Nat.zero_le _⟩ ?_
  refine lv_iload_n hx hb dX0_setSpill_5 rfl (lv_at hl 2 rfl) ?_
  refine kr_sV (n := 1) (As := [.int y]) (rest := []) ⟨hx, hb, hml, hown, hts⟩ (c_X0_checkLoad l y (by assumption)) kg_RX0_62 ⟨rfl, rfl⟩ (by decide +kernel) ⟨Nat.le_of_ble_eq_true rfl, Nat.le_of_ble_eq_true rfl⟩ ⟨kr_blT, fun U hU hW => ⟨rfl, trivial⟩⟩ rfl hl.1 rfl (Nat.le_of_ble_eq_true rfl) dX0_setSpill_6 ⟨Nat.zero_le _, Nat.zero_le _⟩ ?_
  refine lv_iload_n hx hb dX0_setSpill_9 rfl (lv_at hl 3 rfl) ?_
  refine lv_iconst (v := -1) hx hb dX0_setSpill_10 (by decide) ?_
  refine lv_icmp_lt (tgt := 19) hx hb dX0_setSpill_11 (by decide) (fun c11 => absurd c11 hz.1) (fun c11 => ?_)
  refine lv_iload_n hx hb dX0_setSpill_14 rfl (lv_at hl 3 rfl) ?_
  refine lv_iload_n hx hb dX0_setSpill_15 rfl (lv_at hl 1 rfl) ?_
  refine lv_icmp_lt (tgt := 29) hx hb dX0_setSpill_16 (by decide) (fun c16 => ?_) (fun c16 => absurd hz.2 c16)
  refine lv_iload_n hx hb dX0_setSpill_29 rfl (lv_at hl 3 rfl) ?_
  refine lv_iconst (v := -1) hx hb dX0_setSpill_30 (by decide) ?_
  refine lv_icmp_eq (tgt := 59) hx hb dX0_setSpill_31 (by decide) (fun c31 => ?_) (fun c31 => ?_)
  · refine lv_aload_n hx hb dX0_setSpill_59 rfl (lv_at hl 0 rfl) ?_
    refine va_get (ci := 0) (v := .ref (a 3)) (C := RX0) (T := TX0) (N := 10) hx hb hts kr_wsX0 hown hK hP 0 rfl rfl 3 (by decide) (hts _ kq_45) (fun _ h9 => h9) rfl dX0_setSpill_60 ?_
    refine lv_iload_n hx hb dX0_setSpill_63 rfl (lv_at hl 1 rfl) ?_
    refine kr_ald hx hb hK hP 4 0 rfl rfl k (by omega) (by decide) dX0_setSpill_64 ?_
    refine lv_istore (lv' := [(4, .int (A 3 k)), (0, .ref h), (1, .int (nI k)), (2, .int y), (3, .int z)]) hx hb dX0_setSpill_65 hl (by decide) rfl (fun ls hl => ?_)
    refine lv_aload_n hx hb dX0_setSpill_67 rfl (lv_at hl 1 rfl) ?_
    refine va_get (ci := 0) (v := .ref (a 3)) (C := RX0) (T := TX0) (N := 10) hx hb hts kr_wsX0 hown hK hP 0 rfl rfl 3 (by decide) (hts _ kq_45) (fun _ h9 => h9) rfl dX0_setSpill_68 ?_
    refine lv_iload_n hx hb dX0_setSpill_71 rfl (lv_at hl 2 rfl) ?_
    refine lv_iload_n hx hb dX0_setSpill_72 rfl (lv_at hl 3 rfl) ?_
    refine kr_ast hx hb hK hP hD hS 4 0 rfl rfl k (by omega) (by decide) dX0_setSpill_73 (fun H locs hP hD hS => ?_)
    have hP : va_P D vwCl (kr_W0 cy h a N L (kr_up A 3 (upd (A 3) k y))) H := hP
    have hD : va_D AA (kr_W0 cy h a N L (kr_up A 3 (upd (A 3) k y))) := hD
    refine lv_aload_n hx hb dX0_setSpill_74 rfl (lv_at hl 1 rfl) ?_
    refine va_get (ci := 0) (v := .ref (a 4)) (C := RX0) (T := TX0) (N := 10) hx hb hts kr_wsX0 hown hK hP 0 rfl rfl 4 (by decide) (hts _ kq_46) (fun _ h9 => h9) rfl dX0_setSpill_75 ?_
    refine lv_iload_n hx hb dX0_setSpill_78 rfl (lv_at hl 2 rfl) ?_
    refine lv_iload_n hx hb dX0_setSpill_79 rfl (lv_at hl 4 rfl) ?_
    refine kr_ast hx hb hK hP hD hS 5 0 rfl rfl k (by omega) (by decide) dX0_setSpill_80 (fun H locs hP hD hS => ?_)
    have hP : va_P D vwCl (kr_W0 cy h a N L (kr_up (kr_up A 3 (upd (A 3) k y)) 4 (upd (A 4) k z))) H := hP
    have hD : va_D AA (kr_W0 cy h a N L (kr_up (kr_up A 3 (upd (A 3) k y)) 4 (upd (A 4) k z))) := hD
    refine lv_iload hx hb dX0_setSpill_81 (lv_at hl 0 rfl) ?_
    exact kr_wI hx hb hr hlocks hP hK hD hS rfl dX0_setSpill_83
  · obtain ⟨j, hj, rfl, ej⟩ := hz2.resolve_left c31
    refine lv_aload_n hx hb dX0_setSpill_34 rfl (lv_at hl 0 rfl) ?_
    refine va_get (ci := 0) (v := .ref (a 0)) (C := RX0) (T := TX0) (N := 10) hx hb hts kr_wsX0 hown hK hP 0 rfl rfl 0 (by decide) (hts _ kq_42) (fun _ h9 => h9) rfl dX0_setSpill_35 ?_
    refine lv_iload_n hx hb dX0_setSpill_38 rfl (lv_at hl 3 rfl) ?_
    refine kr_ald hx hb hK hP 1 0 rfl rfl j (by omega) (by decide) dX0_setSpill_39 ?_
    refine lv_aload_n hx hb dX0_setSpill_40 rfl (lv_at hl 0 rfl) ?_
    refine va_get (ci := 0) (v := .ref (a 0)) (C := RX0) (T := TX0) (N := 10) hx hb hts kr_wsX0 hown hK hP 0 rfl rfl 0 (by decide) (hts _ kq_42) (fun _ h9 => h9) rfl dX0_setSpill_41 ?_
    refine lv_iload_n hx hb dX0_setSpill_44 rfl (lv_at hl 1 rfl) ?_
    refine kr_ald hx hb hK hP 1 0 rfl rfl k (by omega) (by decide) dX0_setSpill_45 ?_
    refine lv_icmp_eq (tgt := 59) hx hb dX0_setSpill_46 (by decide) (fun c46 => ?_) (fun c46 => absurd ej c46)
    refine lv_aload_n hx hb dX0_setSpill_59 rfl (lv_at hl 0 rfl) ?_
    refine va_get (ci := 0) (v := .ref (a 3)) (C := RX0) (T := TX0) (N := 10) hx hb hts kr_wsX0 hown hK hP 0 rfl rfl 3 (by decide) (hts _ kq_45) (fun _ h9 => h9) rfl dX0_setSpill_60 ?_
    refine lv_iload_n hx hb dX0_setSpill_63 rfl (lv_at hl 1 rfl) ?_
    refine kr_ald hx hb hK hP 4 0 rfl rfl k (by omega) (by decide) dX0_setSpill_64 ?_
    refine lv_istore (lv' := [(4, .int (A 3 k)), (0, .ref h), (1, .int (nI k)), (2, .int y), (3, .int (nI j))]) hx hb dX0_setSpill_65 hl (by decide) rfl (fun ls hl => ?_)
    refine lv_aload_n hx hb dX0_setSpill_67 rfl (lv_at hl 1 rfl) ?_
    refine va_get (ci := 0) (v := .ref (a 3)) (C := RX0) (T := TX0) (N := 10) hx hb hts kr_wsX0 hown hK hP 0 rfl rfl 3 (by decide) (hts _ kq_45) (fun _ h9 => h9) rfl dX0_setSpill_68 ?_
    refine lv_iload_n hx hb dX0_setSpill_71 rfl (lv_at hl 2 rfl) ?_
    refine lv_iload_n hx hb dX0_setSpill_72 rfl (lv_at hl 3 rfl) ?_
    refine kr_ast hx hb hK hP hD hS 4 0 rfl rfl k (by omega) (by decide) dX0_setSpill_73 (fun H locs hP hD hS => ?_)
    have hP : va_P D vwCl (kr_W0 cy h a N L (kr_up A 3 (upd (A 3) k y))) H := hP
    have hD : va_D AA (kr_W0 cy h a N L (kr_up A 3 (upd (A 3) k y))) := hD
    refine lv_aload_n hx hb dX0_setSpill_74 rfl (lv_at hl 1 rfl) ?_
    refine va_get (ci := 0) (v := .ref (a 4)) (C := RX0) (T := TX0) (N := 10) hx hb hts kr_wsX0 hown hK hP 0 rfl rfl 4 (by decide) (hts _ kq_46) (fun _ h9 => h9) rfl dX0_setSpill_75 ?_
    refine lv_iload_n hx hb dX0_setSpill_78 rfl (lv_at hl 2 rfl) ?_
    refine lv_iload_n hx hb dX0_setSpill_79 rfl (lv_at hl 4 rfl) ?_
    refine kr_ast hx hb hK hP hD hS 5 0 rfl rfl k (by omega) (by decide) dX0_setSpill_80 (fun H locs hP hD hS => ?_)
    have hP : va_P D vwCl (kr_W0 cy h a N L (kr_up (kr_up A 3 (upd (A 3) k y)) 4 (upd (A 4) k (nI j)))) H := hP
    have hD : va_D AA (kr_W0 cy h a N L (kr_up (kr_up A 3 (upd (A 3) k y)) 4 (upd (A 4) k (nI j)))) := hD
    refine lv_iload hx hb dX0_setSpill_81 (lv_at hl 0 rfl) ?_
    exact kr_wI hx hb hr hlocks hP hK hD hS rfl dX0_setSpill_83
theorem kg_RX0_78 : GoodIn kr_all (wsV RX0 78 RX0 yX0_appendRope (Cond.code yX0_appendRope cX0_appendRope 5 none :: kr_all)) := kr_gV kq_492 kq_494 kq_23 kq_25 kq_495
set_option maxHeartbeats 4000000 in
set_option maxRecDepth 100000 in
theorem c_X0_tie (l : Launch) (D : va_G) (cy : ClassId) (h : Nat) (a : Nat → Nat) (N L : Nat) (A : Nat → Nat → Int32) (sz : Nat) (k : Nat) (z : Int32) (hN : N ≤ 16) (hk : k < N) (he : A 0 k = 1) (hz : ¬ z < 1 ∧ ¬ 999 < z) (hL : L < 6) : Met l yX0_tie (Cond.code yX0_tie cX0_tie 4 (some .int) :: kr_all) ({ frames := 2, cells := 0, slots := 0, locals := 45 }) (va_Pc [.ref h, .int (nI k), .int z] (kr_Rw D (kr_W0 cy h a N L A) cy sz)) (va_Qi (fun r (_ : Unit) => r = nI L) (fun _ t => kr_Rq D (kr_W0 cy h a N (L + 1) (kr_tA A L k z)) cy (va_A (kr_W0 cy h a N L A) sz) t) (va_A (kr_W0 cy h a N L A) sz)) 0 0 (va_A (kr_W0 cy h a N L A) sz) := by
  refine kr_ofw (Qc := fun AA => va_Qi (fun r (_ : Unit) => r = nI L) (fun _ t => kr_Rq D (kr_W0 cy h a N (L + 1) (kr_tA A L k z)) cy AA t) AA) (by decide) (Nat.le_of_ble_eq_true rfl) ?_
  intro p e s m below meth c ls AA hx hb hml hr hts hown hlocks hin hA hP hK hD hS hl
  have hown : s.vm.findClass RX0 = some m.cls := hown
  have hl : lv_has ls 4 [(0, .ref h), (1, .int (nI k)), (2, .int z)] := hl
  refine lv_aload_n hx hb dX0_tie_0 rfl (lv_at hl 0 rfl) ?_
  refine lv_iload_n hx hb dX0_tie_1 rfl (lv_at hl 1 rfl) ?_
  refine kr_vV (n := 1) (As := [.int (nI k)]) (rest := []) ⟨hx, hb, hml, hown, hts⟩ (c_X0_checkKnot l D cy h a N L A k (by omega) (by omega)) kg_RX0_59 ⟨rfl, rfl⟩ (by decide +kernel) ⟨Nat.le_of_ble_eq_true rfl, Nat.le_of_ble_eq_true rfl⟩ (kr_pv0 hP hK) rfl hl.1 rfl (Nat.le_of_ble_eq_true rfl) dX0_tie_2 ⟨Nat.zero_le _, Nat.zero_le _⟩ ?_
  refine lv_aload_n hx hb dX0_tie_5 rfl (lv_at hl 0 rfl) ?_
  refine lv_iload_n hx hb dX0_tie_6 rfl (lv_at hl 1 rfl) ?_
  refine lv_iconst (v := 1) hx hb dX0_tie_7 (by decide) ?_
  refine kr_vV (n := 2) (As := [.int (nI k), .int 1]) (rest := []) ⟨hx, hb, hml, hown, hts⟩ (c_X0_checkOfKind l D cy h a N L A k 1 (by omega) (by assumption)) kg_RX0_69 ⟨rfl, rfl⟩ (by decide +kernel) ⟨Nat.le_of_ble_eq_true rfl, Nat.le_of_ble_eq_true rfl⟩ (kr_pv0 hP hK) rfl hl.1 rfl (Nat.le_of_ble_eq_true rfl) dX0_tie_8 ⟨Nat.zero_le _, Nat.zero_le _⟩ ?_
  refine lv_iload_n hx hb dX0_tie_11 rfl (lv_at hl 2 rfl) ?_
  refine kr_sV (n := 1) (As := [.int z]) (rest := []) ⟨hx, hb, hml, hown, hts⟩ (c_X0_checkStrength l z (by assumption)) kg_RX0_73 ⟨rfl, rfl⟩ (by decide +kernel) ⟨Nat.le_of_ble_eq_true rfl, Nat.le_of_ble_eq_true rfl⟩ ⟨kr_blT, fun U hU hW => ⟨rfl, trivial⟩⟩ rfl hl.1 rfl (Nat.le_of_ble_eq_true rfl) dX0_tie_12 ⟨Nat.zero_le _, Nat.zero_le _⟩ ?_
  refine lv_aload_n hx hb dX0_tie_15 rfl (lv_at hl 0 rfl) ?_
  refine va_get (ci := 0) (v := .int (nI L)) (C := RX0) (T := TX0) (N := 10) hx hb hts kr_wsX0 hown hK hP 0 rfl rfl 7 (by decide) (hts _ kq_49) (fun _ h9 => h9) rfl dX0_tie_16 ?_
  refine lv_bipush (v := 6) hx hb dX0_tie_19 (by decide) ?_
  refine lv_icmp_lt (tgt := 34) hx hb dX0_tie_21 (by decide) (fun c21 => ?_) (fun c21 => absurd (nI_lt (b := 6) hL (by decide)) c21)
  refine lv_aload_n hx hb dX0_tie_34 rfl (lv_at hl 0 rfl) ?_
  refine va_get (ci := 0) (v := .int (nI L)) (C := RX0) (T := TX0) (N := 10) hx hb hts kr_wsX0 hown hK hP 0 rfl rfl 7 (by decide) (hts _ kq_49) (fun _ h9 => h9) rfl dX0_tie_35 ?_
  refine lv_istore_n (lv' := [(3, .int (nI L)), (0, .ref h), (1, .int (nI k)), (2, .int z)]) hx hb dX0_tie_38 rfl hl (by decide) rfl (fun ls hl => ?_)
  refine lv_aload_n hx hb dX0_tie_39 rfl (lv_at hl 1 rfl) ?_
  refine lv_iload_n hx hb dX0_tie_40 rfl (lv_at hl 0 rfl) ?_
  refine lv_iconst (v := 1) hx hb dX0_tie_41 (by decide) ?_
  refine kr_iaddN hx hb L 1 dX0_tie_42 ?_
  refine va_put (ci := 0) (v := .int (nI (L + 1))) (ty := .int) (C := RX0) (T := TX0) (N := 10) hx hb hts kr_wsX0 tyX0 tyX0_ok nmX0 hown hK hP hD hS 0 rfl rfl 7 (by decide) (hts _ kq_49) (fun _ h9 => h9) rfl (by decide +kernel) rfl rfl (Nat.le_of_ble_eq_true rfl) dX0_tie_43 (fun H locs hP hD hS => ?_)
  have hP : va_P D vwCl (kr_W0 cy h a N (L + 1) A) H := hP
  have hD : va_D AA (kr_W0 cy h a N (L + 1) A) := hD
  refine lv_aload_n hx hb dX0_tie_46 rfl (lv_at hl 1 rfl) ?_
  refine va_get (ci := 0) (v := .ref (a 5)) (C := RX0) (T := TX0) (N := 10) hx hb hts kr_wsX0 hown hK hP 0 rfl rfl 6 (by decide) (hts _ kq_48) (fun _ h9 => h9) rfl dX0_tie_47 ?_
  refine lv_iload_n hx hb dX0_tie_50 rfl (lv_at hl 0 rfl) ?_
  refine lv_iconst (v := 0) hx hb dX0_tie_51 (by decide) ?_
  refine kr_ast hx hb hK hP hD hS 6 0 rfl rfl L (by omega) (by decide) dX0_tie_52 (fun H locs hP hD hS => ?_)
  have hP : va_P D vwCl (kr_W0 cy h a N (L + 1) (kr_up A 5 (upd (A 5) L 0))) H := hP
  have hD : va_D AA (kr_W0 cy h a N (L + 1) (kr_up A 5 (upd (A 5) L 0))) := hD
  refine lv_aload_n hx hb dX0_tie_53 rfl (lv_at hl 1 rfl) ?_
  refine lv_iload_n hx hb dX0_tie_54 rfl (lv_at hl 0 rfl) ?_
  refine lv_iload_n hx hb dX0_tie_55 rfl (lv_at hl 2 rfl) ?_
  refine lv_iload_n hx hb dX0_tie_56 rfl (lv_at hl 3 rfl) ?_
  refine kr_wvV (n := 3) (As := [.int (nI L), .int (nI k), .int z]) (rest := []) ⟨hx, hb, hml, hown, hts⟩ (c_X0_appendRope l D cy h a N (L + 1) (kr_up A 5 (upd (A 5) L 0)) H.size L 0 k z (by omega) (by omega) pk_us) kg_RX0_78 ⟨rfl, rfl⟩ (by decide +kernel) ⟨Nat.le_of_ble_eq_true rfl, Nat.le_of_ble_eq_true rfl⟩ (va_recv hK hP (ci := 0) (q0 := 0) rfl rfl) hP hK hD hS hA rfl hl.1 rfl (Nat.le_of_ble_eq_true rfl) dX0_tie_57 ⟨Nat.le_of_ble_eq_true rfl, Nat.le_of_ble_eq_true rfl⟩ (fun u9 H locs e9 hP hD hS => ?_)
  rw [show kr_jA (kr_up A 5 (upd (A 5) L 0)) L 0 k z = kr_tA A L k z from kr_tA0 L k z] at hP hD
  refine lv_iload_n hx hb dX0_tie_60 rfl (lv_at hl 0 rfl) ?_
  exact kr_wI hx hb hr hlocks hP hK hD hS rfl dX0_tie_61
set_option maxHeartbeats 4000000 in
set_option maxRecDepth 100000 in
theorem c_X0_join (l : Launch) (D : va_G) (cy : ClassId) (h : Nat) (a : Nat → Nat) (N L : Nat) (A : Nat → Nat → Int32) (sz : Nat) (q r0 k : Nat) (z : Int32) (hN : N ≤ 16) (hL : L ≤ 6) (hq : q < L) (hk : k < N) (he : A 0 k = 0) (hz : ¬ z < 1 ∧ ¬ 999 < z) (er : A 5 q = nI r0) (hr0 : 0 < r0) (hr5 : r0 < 5) : Met l yX0_join (Cond.code yX0_join cX0_join 4 (some .int) :: kr_all) ({ frames := 2, cells := 0, slots := 0, locals := 45 }) (va_Pc [.ref h, .int (nI q), .int (nI k), .int z] (kr_Rw D (kr_W0 cy h a N L A) cy sz)) (va_Qi (fun r (_ : Unit) => r = nI (r0 + 1)) (fun _ t => kr_Rq D (kr_W0 cy h a N L (kr_jA A q r0 k z)) cy (va_A (kr_W0 cy h a N L A) sz) t) (va_A (kr_W0 cy h a N L A) sz)) 0 0 (va_A (kr_W0 cy h a N L A) sz) := by
  refine kr_ofw (Qc := fun AA => va_Qi (fun r (_ : Unit) => r = nI (r0 + 1)) (fun _ t => kr_Rq D (kr_W0 cy h a N L (kr_jA A q r0 k z)) cy AA t) AA) (by decide) (Nat.le_of_ble_eq_true rfl) ?_
  intro p e s m below meth c ls AA hx hb hml hr hts hown hlocks hin hA hP hK hD hS hl
  have hown : s.vm.findClass RX0 = some m.cls := hown
  have hl : lv_has ls 4 [(0, .ref h), (1, .int (nI q)), (2, .int (nI k)), (3, .int z)] := hl
  have hg : ¬ A 5 q = 0 := by rw [er]; exact nI_ne0 hr0 (by omega)
  refine lv_aload_n hx hb dX0_join_0 rfl (lv_at hl 0 rfl) ?_
  refine lv_iload_n hx hb dX0_join_1 rfl (lv_at hl 1 rfl) ?_
  refine kr_vV (n := 1) (As := [.int (nI q)]) (rest := []) ⟨hx, hb, hml, hown, hts⟩ (c_X0_checkLine l D cy h a N L A q (by omega) (by omega)) kg_RX0_82 ⟨rfl, rfl⟩ (by decide +kernel) ⟨Nat.le_of_ble_eq_true rfl, Nat.le_of_ble_eq_true rfl⟩ (kr_pv0 hP hK) rfl hl.1 rfl (Nat.le_of_ble_eq_true rfl) dX0_join_2 ⟨Nat.zero_le _, Nat.zero_le _⟩ ?_
  refine lv_aload_n hx hb dX0_join_5 rfl (lv_at hl 0 rfl) ?_
  refine lv_iload_n hx hb dX0_join_6 rfl (lv_at hl 2 rfl) ?_
  refine kr_vV (n := 1) (As := [.int (nI k)]) (rest := []) ⟨hx, hb, hml, hown, hts⟩ (c_X0_checkKnot l D cy h a N L A k (by omega) (by omega)) kg_RX0_59 ⟨rfl, rfl⟩ (by decide +kernel) ⟨Nat.le_of_ble_eq_true rfl, Nat.le_of_ble_eq_true rfl⟩ (kr_pv0 hP hK) rfl hl.1 rfl (Nat.le_of_ble_eq_true rfl) dX0_join_7 ⟨Nat.zero_le _, Nat.zero_le _⟩ ?_
  refine lv_aload_n hx hb dX0_join_10 rfl (lv_at hl 0 rfl) ?_
  refine lv_iload_n hx hb dX0_join_11 rfl (lv_at hl 2 rfl) ?_
  refine lv_iconst (v := 0) hx hb dX0_join_12 (by decide) ?_
  refine kr_vV (n := 2) (As := [.int (nI k), .int 0]) (rest := []) ⟨hx, hb, hml, hown, hts⟩ (c_X0_checkOfKind l D cy h a N L A k 0 (by omega) (by assumption)) kg_RX0_69 ⟨rfl, rfl⟩ (by decide +kernel) ⟨Nat.le_of_ble_eq_true rfl, Nat.le_of_ble_eq_true rfl⟩ (kr_pv0 hP hK) rfl hl.1 rfl (Nat.le_of_ble_eq_true rfl) dX0_join_13 ⟨Nat.zero_le _, Nat.zero_le _⟩ ?_
  refine lv_iload_n hx hb dX0_join_16 rfl (lv_at hl 3 rfl) ?_
  refine kr_sV (n := 1) (As := [.int z]) (rest := []) ⟨hx, hb, hml, hown, hts⟩ (c_X0_checkStrength l z (by assumption)) kg_RX0_73 ⟨rfl, rfl⟩ (by decide +kernel) ⟨Nat.le_of_ble_eq_true rfl, Nat.le_of_ble_eq_true rfl⟩ ⟨kr_blT, fun U hU hW => ⟨rfl, trivial⟩⟩ rfl hl.1 rfl (Nat.le_of_ble_eq_true rfl) dX0_join_17 ⟨Nat.zero_le _, Nat.zero_le _⟩ ?_
  refine lv_aload_n hx hb dX0_join_20 rfl (lv_at hl 0 rfl) ?_
  refine lv_iload_n hx hb dX0_join_21 rfl (lv_at hl 1 rfl) ?_
  refine kr_vV (n := 1) (As := [.int (nI q)]) (rest := []) ⟨hx, hb, hml, hown, hts⟩ (c_X0_checkNotGone l D cy h a N L A q (by omega) (by assumption)) kg_RX0_85 ⟨rfl, rfl⟩ (by decide +kernel) ⟨Nat.le_of_ble_eq_true rfl, Nat.le_of_ble_eq_true rfl⟩ (kr_pv0 hP hK) rfl hl.1 rfl (Nat.le_of_ble_eq_true rfl) dX0_join_22 ⟨Nat.zero_le _, Nat.zero_le _⟩ ?_
  refine lv_aload_n hx hb dX0_join_25 rfl (lv_at hl 0 rfl) ?_
  refine va_get (ci := 0) (v := .ref (a 5)) (C := RX0) (T := TX0) (N := 10) hx hb hts kr_wsX0 hown hK hP 0 rfl rfl 6 (by decide) (hts _ kq_48) (fun _ h9 => h9) rfl dX0_join_26 ?_
  refine lv_iload_n hx hb dX0_join_29 rfl (lv_at hl 1 rfl) ?_
  refine kr_ald hx hb hK hP 6 0 rfl rfl q (by omega) (by decide) dX0_join_30 ?_
  rw [er]
  refine lv_iconst (v := 5) hx hb dX0_join_31 (by decide) ?_
  refine lv_icmp_lt (tgt := 45) hx hb dX0_join_32 (by decide) (fun c32 => ?_) (fun c32 => absurd (nI_lt (b := 5) hr5 (by decide)) c32)
  refine lv_aload_n hx hb dX0_join_45 rfl (lv_at hl 0 rfl) ?_
  refine lv_iload_n hx hb dX0_join_46 rfl (lv_at hl 1 rfl) ?_
  refine lv_iload_n hx hb dX0_join_47 rfl (lv_at hl 2 rfl) ?_
  refine lv_iload_n hx hb dX0_join_48 rfl (lv_at hl 3 rfl) ?_
  refine kr_wvV (n := 3) (As := [.int (nI q), .int (nI k), .int z]) (rest := []) ⟨hx, hb, hml, hown, hts⟩ (c_X0_appendRope l D cy h a N L A s.heap.size q r0 k z (by omega) (by omega) er) kg_RX0_78 ⟨rfl, rfl⟩ (by decide +kernel) ⟨Nat.le_of_ble_eq_true rfl, Nat.le_of_ble_eq_true rfl⟩ (va_recv hK hP (ci := 0) (q0 := 0) rfl rfl) hP hK hD hS hA rfl hl.1 rfl (Nat.le_of_ble_eq_true rfl) dX0_join_49 ⟨Nat.le_of_ble_eq_true rfl, Nat.le_of_ble_eq_true rfl⟩ (fun u9 H locs e9 hP hD hS => ?_)
  refine lv_aload_n hx hb dX0_join_52 rfl (lv_at hl 0 rfl) ?_
  refine va_get (ci := 0) (v := .ref (a 5)) (C := RX0) (T := TX0) (N := 10) hx hb hts kr_wsX0 hown hK hP 0 rfl rfl 6 (by decide) (hts _ kq_48) (fun _ h9 => h9) rfl dX0_join_53 ?_
  refine lv_iload_n hx hb dX0_join_56 rfl (lv_at hl 1 rfl) ?_
  refine kr_ald hx hb hK hP 6 0 rfl rfl q (by omega) (by decide) dX0_join_57 ?_
  rw [show kr_jA A q r0 k z 5 q = nI (r0 + 1) from pk_us]
  exact kr_wI hx hb hr hlocks hP hK hD hS rfl dX0_join_58
set_option maxHeartbeats 4000000 in
set_option maxRecDepth 100000 in
theorem c_X0_retie (l : Launch) (D : va_G) (cy : ClassId) (h : Nat) (a : Nat → Nat) (N L : Nat) (A : Nat → Nat → Int32) (sz : Nat) (q pl k : Nat) (hw : kr_wf N L A) (hq : q < L) (hp : pl < kr_rc A q) (hk : k < N) (he : A 0 k = if nI pl = 0 then (1 : Int32) else 0) : Met l yX0_retie (Cond.code yX0_retie cX0_retie 6 (some .int) :: kr_all) ({ frames := 2, cells := 0, slots := 0, locals := 43 }) (va_Pc [.ref h, .int (nI q), .int (nI pl), .int (nI k)] (kr_Rw D (kr_W0 cy h a N L A) cy sz)) (va_Qi (fun r (_ : Unit) => r = A 6 (5 * q + pl)) (fun _ t => kr_Rq D (kr_W0 cy h a N L (kr_rA A (5 * q + pl) k)) cy (va_A (kr_W0 cy h a N L A) sz) t) (va_A (kr_W0 cy h a N L A) sz)) 0 0 (va_A (kr_W0 cy h a N L A) sz) := by
  refine kr_ofw (Qc := fun AA => va_Qi (fun r (_ : Unit) => r = A 6 (5 * q + pl)) (fun _ t => kr_Rq D (kr_W0 cy h a N L (kr_rA A (5 * q + pl) k)) cy AA t) AA) (by decide) (Nat.le_of_ble_eq_true rfl) ?_
  intro p e s m below meth c ls AA hx hb hml hr hts hown hlocks hin hA hP hK hD hS hl
  have hown : s.vm.findClass RX0 = some m.cls := hown
  have hl : lv_has ls 6 [(0, .ref h), (1, .int (nI q)), (2, .int (nI pl)), (3, .int (nI k))] := hl
  have hN := hw.1
  have hL := hw.2.1
  obtain ⟨hrc, er⟩ := hw.rc hq
  refine lv_aload_n hx hb dX0_retie_0 rfl (lv_at hl 0 rfl) ?_
  refine lv_iload_n hx hb dX0_retie_1 rfl (lv_at hl 1 rfl) ?_
  refine lv_iload_n hx hb dX0_retie_2 rfl (lv_at hl 2 rfl) ?_
  refine kr_vV (n := 2) (As := [.int (nI q), .int (nI pl)]) (rest := []) ⟨hx, hb, hml, hown, hts⟩ (c_X0_checkPlace l D cy h a N L A q pl hw (by omega) (by omega)) kg_RX0_90 ⟨rfl, rfl⟩ (by decide +kernel) ⟨Nat.le_of_ble_eq_true rfl, Nat.le_of_ble_eq_true rfl⟩ (kr_pv0 hP hK) rfl hl.1 rfl (Nat.le_of_ble_eq_true rfl) dX0_retie_3 ⟨Nat.zero_le _, Nat.zero_le _⟩ ?_
  refine lv_aload_n hx hb dX0_retie_6 rfl (lv_at hl 0 rfl) ?_
  refine lv_iload_n hx hb dX0_retie_7 rfl (lv_at hl 3 rfl) ?_
  refine kr_vV (n := 1) (As := [.int (nI k)]) (rest := []) ⟨hx, hb, hml, hown, hts⟩ (c_X0_checkKnot l D cy h a N L A k (by omega) (by omega)) kg_RX0_59 ⟨rfl, rfl⟩ (by decide +kernel) ⟨Nat.le_of_ble_eq_true rfl, Nat.le_of_ble_eq_true rfl⟩ (kr_pv0 hP hK) rfl hl.1 rfl (Nat.le_of_ble_eq_true rfl) dX0_retie_8 ⟨Nat.zero_le _, Nat.zero_le _⟩ ?_
  refine lv_aload_n hx hb dX0_retie_11 rfl (lv_at hl 0 rfl) ?_
  refine lv_iload_n hx hb dX0_retie_12 rfl (lv_at hl 3 rfl) ?_
  refine lv_iload_n hx hb dX0_retie_13 rfl (lv_at hl 2 rfl) ?_
  refine kr_sI (n := 1) (As := [.int (nI pl)]) (rest := [.int (nI k), .ref h]) ⟨hx, hb, hml, hown, hts⟩ (c_X0_kindDueAt l (nI pl)) kg_RX0_93 ⟨rfl, rfl⟩ (by decide +kernel) ⟨Nat.le_of_ble_eq_true rfl, Nat.le_of_ble_eq_true rfl⟩ ⟨kr_blT, fun U hU hW => ⟨rfl, trivial⟩⟩ rfl hl.1 rfl (Nat.le_of_ble_eq_true rfl) dX0_retie_14 ⟨Nat.zero_le _, Nat.zero_le _⟩ (fun r9 e9 => ?_)
  subst e9
  refine kr_vV (n := 2) (As := [.int (nI k), .int (if (nI pl) = 0 then (1 : Int32) else 0)]) (rest := []) ⟨hx, hb, hml, hown, hts⟩ (c_X0_checkOfKind l D cy h a N L A k (if (nI pl) = 0 then (1 : Int32) else 0) (by omega) (by assumption)) kg_RX0_69 ⟨rfl, rfl⟩ (by decide +kernel) ⟨Nat.le_of_ble_eq_true rfl, Nat.le_of_ble_eq_true rfl⟩ (kr_pv0 hP hK) rfl hl.1 rfl (Nat.le_of_ble_eq_true rfl) dX0_retie_17 ⟨Nat.zero_le _, Nat.zero_le _⟩ ?_
  refine lv_iload_n hx hb dX0_retie_20 rfl (lv_at hl 1 rfl) ?_
  refine lv_iload_n hx hb dX0_retie_21 rfl (lv_at hl 2 rfl) ?_
  refine kr_sI (n := 2) (As := [.int (nI q), .int (nI pl)]) (rest := []) ⟨hx, hb, hml, hown, hts⟩ (c_X0_slot l q pl) kg_RX0_97 ⟨rfl, rfl⟩ (by decide +kernel) ⟨Nat.le_of_ble_eq_true rfl, Nat.le_of_ble_eq_true rfl⟩ ⟨kr_blT, fun U hU hW => ⟨rfl, trivial⟩⟩ rfl hl.1 rfl (Nat.le_of_ble_eq_true rfl) dX0_retie_22 ⟨Nat.zero_le _, Nat.zero_le _⟩ (fun r9 e9 => ?_)
  subst e9
  refine lv_istore (lv' := [(4, .int (nI (5 * q + pl))), (0, .ref h), (1, .int (nI q)), (2, .int (nI pl)), (3, .int (nI k))]) hx hb dX0_retie_25 hl (by decide) rfl (fun ls hl => ?_)
  refine lv_aload_n hx hb dX0_retie_27 rfl (lv_at hl 1 rfl) ?_
  refine va_get (ci := 0) (v := .ref (a 6)) (C := RX0) (T := TX0) (N := 10) hx hb hts kr_wsX0 hown hK hP 0 rfl rfl 8 (by decide) (hts _ kq_50) (fun _ h9 => h9) rfl dX0_retie_28 ?_
  refine lv_iload hx hb dX0_retie_31 (lv_at hl 0 rfl) ?_
  refine kr_ald hx hb hK hP 7 0 rfl rfl (5 * q + pl) (by omega) (by decide) dX0_retie_33 ?_
  refine lv_istore (lv' := [(5, .int (A 6 (5 * q + pl))), (4, .int (nI (5 * q + pl))), (0, .ref h), (1, .int (nI q)), (2, .int (nI pl)), (3, .int (nI k))]) hx hb dX0_retie_34 hl (by decide) rfl (fun ls hl => ?_)
  refine lv_aload_n hx hb dX0_retie_36 rfl (lv_at hl 2 rfl) ?_
  refine va_get (ci := 0) (v := .ref (a 6)) (C := RX0) (T := TX0) (N := 10) hx hb hts kr_wsX0 hown hK hP 0 rfl rfl 8 (by decide) (hts _ kq_50) (fun _ h9 => h9) rfl dX0_retie_37 ?_
  refine lv_iload hx hb dX0_retie_40 (lv_at hl 1 rfl) ?_
  refine lv_iload_n hx hb dX0_retie_42 rfl (lv_at hl 5 rfl) ?_
  refine kr_ast hx hb hK hP hD hS 7 0 rfl rfl (5 * q + pl) (by omega) (by decide) dX0_retie_43 (fun H locs hP hD hS => ?_)
  have hP : va_P D vwCl (kr_W0 cy h a N L (kr_up A 6 (upd (A 6) (5 * q + pl) (nI k)))) H := hP
  have hD : va_D AA (kr_W0 cy h a N L (kr_up A 6 (upd (A 6) (5 * q + pl) (nI k)))) := hD
  refine lv_iload hx hb dX0_retie_44 (lv_at hl 0 rfl) ?_
  exact kr_wI hx hb hr hlocks hP hK hD hS rfl dX0_retie_46
set_option maxHeartbeats 4000000 in
set_option maxRecDepth 100000 in
theorem c_X0_pull (l : Launch) (D : va_G) (cy : ClassId) (h : Nat) (a : Nat → Nat) (N L : Nat) (A : Nat → Nat → Int32) (sz : Nat) (q : Nat) (ld : Int32) (hw : kr_wf N L A) (hq : q < L) (hld : ¬ ld < 1 ∧ ¬ 999 < ld) (hg : ¬ A 5 q = 0) : Met l yX0_pull (Cond.code yX0_pull cX0_pull 6 (some .int) :: kr_all) ({ frames := 5, cells := 0, slots := 0, locals := 114 }) (va_Pc [.ref h, .int (nI q), .int ld] (kr_Rw D (kr_W0 cy h a N L A) cy sz)) (va_Qi (fun r (_ : Unit) => r = kr_gw A q ld) (fun _ t => kr_Rq D (kr_W0 cy h a N L (kr_pA A q ld)) cy (va_A (kr_W0 cy h a N L A) sz) t) (va_A (kr_W0 cy h a N L A) sz)) 0 0 (va_A (kr_W0 cy h a N L A) sz) := by
  refine kr_ofw (Qc := fun AA => va_Qi (fun r (_ : Unit) => r = kr_gw A q ld) (fun _ t => kr_Rq D (kr_W0 cy h a N L (kr_pA A q ld)) cy AA t) AA) (by decide) (Nat.le_of_ble_eq_true rfl) ?_
  intro p e s m below meth c ls AA hx hb hml hr hts hown hlocks hin hA hP hK hD hS hl
  have hown : s.vm.findClass RX0 = some m.cls := hown
  have hl : lv_has ls 6 [(0, .ref h), (1, .int (nI q)), (2, .int ld)] := hl
  have hN := hw.1
  have hL := hw.2.1
  obtain ⟨hrc, er⟩ := hw.rc hq
  have hp5 := (kr_pr_le (ld := ld) hrc).1
  refine lv_aload_n hx hb dX0_pull_0 rfl (lv_at hl 0 rfl) ?_
  refine lv_iload_n hx hb dX0_pull_1 rfl (lv_at hl 1 rfl) ?_
  refine kr_vV (n := 1) (As := [.int (nI q)]) (rest := []) ⟨hx, hb, hml, hown, hts⟩ (c_X0_checkLine l D cy h a N L A q (by omega) (by omega)) kg_RX0_82 ⟨rfl, rfl⟩ (by decide +kernel) ⟨Nat.le_of_ble_eq_true rfl, Nat.le_of_ble_eq_true rfl⟩ (kr_pv0 hP hK) rfl hl.1 rfl (Nat.le_of_ble_eq_true rfl) dX0_pull_2 ⟨Nat.zero_le _, Nat.zero_le _⟩ ?_
  refine lv_iload_n hx hb dX0_pull_5 rfl (lv_at hl 2 rfl) ?_
  refine kr_sV (n := 1) (As := [.int ld]) (rest := []) ⟨hx, hb, hml, hown, hts⟩ (c_X0_checkLoad l ld (by assumption)) kg_RX0_62 ⟨rfl, rfl⟩ (by decide +kernel) ⟨Nat.le_of_ble_eq_true rfl, Nat.le_of_ble_eq_true rfl⟩ ⟨kr_blT, fun U hU hW => ⟨rfl, trivial⟩⟩ rfl hl.1 rfl (Nat.le_of_ble_eq_true rfl) dX0_pull_6 ⟨Nat.zero_le _, Nat.zero_le _⟩ ?_
  refine lv_aload_n hx hb dX0_pull_9 rfl (lv_at hl 0 rfl) ?_
  refine lv_iload_n hx hb dX0_pull_10 rfl (lv_at hl 1 rfl) ?_
  refine kr_vV (n := 1) (As := [.int (nI q)]) (rest := []) ⟨hx, hb, hml, hown, hts⟩ (c_X0_checkNotGone l D cy h a N L A q (by omega) (by assumption)) kg_RX0_85 ⟨rfl, rfl⟩ (by decide +kernel) ⟨Nat.le_of_ble_eq_true rfl, Nat.le_of_ble_eq_true rfl⟩ (kr_pv0 hP hK) rfl hl.1 rfl (Nat.le_of_ble_eq_true rfl) dX0_pull_11 ⟨Nat.zero_le _, Nat.zero_le _⟩ ?_
  refine lv_aload_n hx hb dX0_pull_14 rfl (lv_at hl 0 rfl) ?_
  refine lv_iload_n hx hb dX0_pull_15 rfl (lv_at hl 1 rfl) ?_
  refine lv_iload_n hx hb dX0_pull_16 rfl (lv_at hl 2 rfl) ?_
  refine kr_vI (n := 2) (As := [.int (nI q), .int ld]) (rest := []) ⟨hx, hb, hml, hown, hts⟩ (c_X0_firstPlaceToGiveWay l D cy h a N L A q ld hw (by omega)) kg_RX0_101 ⟨rfl, rfl⟩ (by decide +kernel) ⟨Nat.le_of_ble_eq_true rfl, Nat.le_of_ble_eq_true rfl⟩ (kr_pv0 hP hK) rfl hl.1 rfl (Nat.le_of_ble_eq_true rfl) dX0_pull_17 ⟨Nat.zero_le _, Nat.zero_le _⟩ (fun r9 e9 => ?_)
  subst e9
  refine lv_istore_n (lv' := [(3, .int (kr_gw A q ld)), (0, .ref h), (1, .int (nI q)), (2, .int ld)]) hx hb dX0_pull_20 rfl hl (by decide) rfl (fun ls hl => ?_)
  refine lv_iload_n hx hb dX0_pull_21 rfl (lv_at hl 0 rfl) ?_
  refine lv_iconst (v := -1) hx hb dX0_pull_22 (by decide) ?_
  refine lv_icmp_eq (tgt := 33) hx hb dX0_pull_23 (by decide) (fun c23 => ?_) (fun c23 => ?_)
  · have hP : va_P D vwCl (kr_W0 cy h a N L (kr_pB A q ld 0)) s.heap := by rw [kr_pB0n c23 er]; exact hP
    have hD : va_D AA (kr_W0 cy h a N L (kr_pB A q ld 0)) := by rw [kr_pB0n c23 er]; exact hD
    refine lv_iconst (v := 0) hx hb dX0_pull_33 (by decide) ?_
    refine lv_istore (lv' := [(4, .int 0), (3, .int (kr_gw A q ld)), (0, .ref h), (1, .int (nI q)), (2, .int ld)]) hx hb dX0_pull_34 hl (by decide) rfl (fun ls hl => ?_)
    refine kr_lpH (nL := 6) (fun z : Nat => [(4, .int (nI z)), (3, .int (kr_gw A q ld)), (0, .ref h), (1, .int (nI q)), (2, .int ld)]) (fun z H locs => (z ≤ kr_pr' A q ld) ∧ va_P D vwCl (kr_W0 cy h a N L (kr_pB A q ld z)) H ∧ va_D AA (kr_W0 cy h a N L (kr_pB A q ld z)) ∧ va_S AA s.heap H locs) (fun z => kr_pr' A q ld - z) ?_ (0) ⟨Nat.zero_le _, hP, hD, hS⟩ (lv_sub hl [0, 1, 2, 3, 4] rfl)
    clear hl hP hD hS
    intro z H locs ls hI hl ih
    obtain ⟨i, rfl⟩ : ∃ y, y = z := ⟨_, rfl⟩
    have hl : lv_has ls 6 [(4, .int (nI i)), (3, .int (kr_gw A q ld)), (0, .ref h), (1, .int (nI q)), (2, .int ld)] := hl
    obtain ⟨hi0, hP, hD, hS⟩ : (i ≤ kr_pr' A q ld) ∧ va_P D vwCl (kr_W0 cy h a N L (kr_pB A q ld i)) H ∧ va_D AA (kr_W0 cy h a N L (kr_pB A q ld i)) ∧ va_S AA s.heap H locs := hI
    refine lv_iload hx hb dX0_pull_36 (lv_at hl 0 rfl) ?_
    refine lv_aload_n hx hb dX0_pull_38 rfl (lv_at hl 2 rfl) ?_
    refine va_get (ci := 0) (v := .ref (a 5)) (C := RX0) (T := TX0) (N := 10) hx hb hts kr_wsX0 hown hK hP 0 rfl rfl 6 (by decide) (hts _ kq_48) (fun _ h9 => h9) rfl dX0_pull_39 ?_
    refine lv_iload_n hx hb dX0_pull_42 rfl (lv_at hl 3 rfl) ?_
    refine kr_ald hx hb hK hP 6 0 rfl rfl q (by omega) (by decide) dX0_pull_43 ?_
    rw [kr_pB5]
    refine lv_icmp_ge (tgt := 80) hx hb dX0_pull_44 (by decide) (fun c44 => ?_) (fun c44 => ?_)
    · have hi2 : i = kr_pr' A q ld := by have := kr_ge (by omega) (by omega) c44; omega
      rw [hi2] at hP hD
      refine lv_iload_n hx hb dX0_pull_80 rfl (lv_at hl 1 rfl) ?_
      exact kr_wI hx hb hr hlocks hP hK hD hS rfl dX0_pull_81
    · have hi : i < kr_pr' A q ld := kr_lt (by omega) (by omega) c44
      have hwi := kr_wf_p hw hq hi0
      refine lv_iload_n hx hb dX0_pull_47 rfl (lv_at hl 3 rfl) ?_
      refine lv_iload hx hb dX0_pull_48 (lv_at hl 0 rfl) ?_
      refine kr_sI (n := 2) (As := [.int (nI q), .int (nI i)]) (rest := []) ⟨hx, hb, hml, hown, hts⟩ (c_X0_slot l q i) kg_RX0_97 ⟨rfl, rfl⟩ (by decide +kernel) ⟨Nat.le_of_ble_eq_true rfl, Nat.le_of_ble_eq_true rfl⟩ ⟨kr_blT, fun U hU hW => ⟨rfl, trivial⟩⟩ rfl hl.1 rfl (Nat.le_of_ble_eq_true rfl) dX0_pull_50 ⟨Nat.zero_le _, Nat.zero_le _⟩ (fun r9 e9 => ?_)
      subst e9
      refine lv_istore (lv' := [(5, .int (nI (5 * q + i))), (4, .int (nI i)), (3, .int (kr_gw A q ld)), (0, .ref h), (1, .int (nI q)), (2, .int ld)]) hx hb dX0_pull_53 hl (by decide) rfl (fun ls hl => ?_)
      refine lv_aload_n hx hb dX0_pull_55 rfl (lv_at hl 3 rfl) ?_
      refine va_get (ci := 0) (v := .ref (a 6)) (C := RX0) (T := TX0) (N := 10) hx hb hts kr_wsX0 hown hK hP 0 rfl rfl 8 (by decide) (hts _ kq_50) (fun _ h9 => h9) rfl dX0_pull_56 ?_
      refine lv_iload hx hb dX0_pull_59 (lv_at hl 0 rfl) ?_
      refine lv_aload_n hx hb dX0_pull_61 rfl (lv_at hl 3 rfl) ?_
      refine lv_aload_n hx hb dX0_pull_62 rfl (lv_at hl 3 rfl) ?_
      refine va_get (ci := 0) (v := .ref (a 6)) (C := RX0) (T := TX0) (N := 10) hx hb hts kr_wsX0 hown hK hP 0 rfl rfl 8 (by decide) (hts _ kq_50) (fun _ h9 => h9) rfl dX0_pull_63 ?_
      refine lv_iload hx hb dX0_pull_66 (lv_at hl 0 rfl) ?_
      refine kr_ald hx hb hK hP 7 0 rfl rfl (5 * q + i) (by omega) (by decide) dX0_pull_68 ?_
      rw [kr_pB6]
      refine lv_iload_n hx hb dX0_pull_69 rfl (lv_at hl 5 rfl) ?_
      refine kr_vI (n := 2) (As := [.int (A 6 (5 * q + i)), .int ld]) (rest := [.int (nI (5 * q + i)), .ref (a 6)]) ⟨hx, hb, hml, hown, hts⟩ (c_X0_formUnder l D cy h a N L (kr_pB A q ld i) (A 6 (5 * q + i)) ld hwi (hw.tn hq (by omega))) kg_RX0_104 ⟨rfl, rfl⟩ (by decide +kernel) ⟨Nat.le_of_ble_eq_true rfl, Nat.le_of_ble_eq_true rfl⟩ (kr_pv0 hP hK) rfl hl.1 rfl (Nat.le_of_ble_eq_true rfl) dX0_pull_70 ⟨Nat.zero_le _, Nat.zero_le _⟩ (fun r9 e9 => ?_)
      rw [kr_pBf] at e9
      subst e9
      refine kr_ast hx hb hK hP hD hS 7 0 rfl rfl (5 * q + i) (by omega) (by decide) dX0_pull_73 (fun H locs hP hD hS => ?_)
      have hP : va_P D vwCl (kr_W0 cy h a N L (kr_up (kr_pB A q ld i) 6 (upd ((kr_pB A q ld i) 6) (5 * q + i) (kr_fm A ld 16 (A 6 (5 * q + i)))))) H := hP
      have hD : va_D AA (kr_W0 cy h a N L (kr_up (kr_pB A q ld i) 6 (upd ((kr_pB A q ld i) 6) (5 * q + i) (kr_fm A ld 16 (A 6 (5 * q + i)))))) := hD
      rw [show kr_up (kr_pB A q ld i) 6 (upd ((kr_pB A q ld i) 6) (5 * q + i) (kr_fm A ld 16 (A 6 (5 * q + i)))) = kr_pB A q ld (i + 1) from kr_pBs i] at hP hD
      refine lv_iinc (v := nI (i + 1)) (lv' := [(4, .int (nI (i + 1))), (5, .int (nI (5 * q + i))), (3, .int (kr_gw A q ld)), (0, .ref h), (1, .int (nI q)), (2, .int ld)]) hx hb dX0_pull_74 hl (k := 1) rfl (kr_inc _) (by decide) rfl (fun ls hl => ?_)
      refine lv_goto (tgt := 36) hx hb dX0_pull_77 (by decide) ?_
      exact ih (i + 1) _ _ ls ⟨by omega, hP, hD, hS⟩ (by show kr_pr' A q ld - (i + 1) < kr_pr' A q ld - i; omega) (lv_sub hl [0, 2, 3, 4, 5] rfl)
  · obtain ⟨g, hg5, eg⟩ := (kr_gw_kn (ld := ld) hrc).resolve_left c23
    refine lv_aload_n hx hb dX0_pull_26 rfl (lv_at hl 1 rfl) ?_
    refine va_get (ci := 0) (v := .ref (a 5)) (C := RX0) (T := TX0) (N := 10) hx hb hts kr_wsX0 hown hK hP 0 rfl rfl 6 (by decide) (hts _ kq_48) (fun _ h9 => h9) rfl dX0_pull_27 ?_
    refine lv_iload_n hx hb dX0_pull_30 rfl (lv_at hl 2 rfl) ?_
    refine lv_iload_n hx hb dX0_pull_31 rfl (lv_at hl 0 rfl) ?_
    refine kr_ast hx hb hK hP hD hS 6 0 rfl rfl q (by omega) (by decide) dX0_pull_32 (fun H locs hP hD hS => ?_)
    have hP : va_P D vwCl (kr_W0 cy h a N L (kr_up A 5 (upd (A 5) q (kr_gw A q ld)))) H := hP
    have hD : va_D AA (kr_W0 cy h a N L (kr_up A 5 (upd (A 5) q (kr_gw A q ld)))) := hD
    rw [eg, ← kr_pB0y (by omega) eg] at hP hD
    refine lv_iconst (v := 0) hx hb dX0_pull_33 (by decide) ?_
    refine lv_istore (lv' := [(4, .int 0), (3, .int (kr_gw A q ld)), (0, .ref h), (1, .int (nI q)), (2, .int ld)]) hx hb dX0_pull_34 hl (by decide) rfl (fun ls hl => ?_)
    refine kr_lpH (nL := 6) (fun z : Nat => [(4, .int (nI z)), (3, .int (kr_gw A q ld)), (0, .ref h), (1, .int (nI q)), (2, .int ld)]) (fun z H locs => (z ≤ kr_pr' A q ld) ∧ va_P D vwCl (kr_W0 cy h a N L (kr_pB A q ld z)) H ∧ va_D AA (kr_W0 cy h a N L (kr_pB A q ld z)) ∧ va_S AA s.heap H locs) (fun z => kr_pr' A q ld - z) ?_ (0) ⟨Nat.zero_le _, hP, hD, hS⟩ (lv_sub hl [0, 1, 2, 3, 4] rfl)
    clear hl hP hD hS
    intro z H locs ls hI hl ih
    obtain ⟨i, rfl⟩ : ∃ y, y = z := ⟨_, rfl⟩
    have hl : lv_has ls 6 [(4, .int (nI i)), (3, .int (kr_gw A q ld)), (0, .ref h), (1, .int (nI q)), (2, .int ld)] := hl
    obtain ⟨hi0, hP, hD, hS⟩ : (i ≤ kr_pr' A q ld) ∧ va_P D vwCl (kr_W0 cy h a N L (kr_pB A q ld i)) H ∧ va_D AA (kr_W0 cy h a N L (kr_pB A q ld i)) ∧ va_S AA s.heap H locs := hI
    refine lv_iload hx hb dX0_pull_36 (lv_at hl 0 rfl) ?_
    refine lv_aload_n hx hb dX0_pull_38 rfl (lv_at hl 2 rfl) ?_
    refine va_get (ci := 0) (v := .ref (a 5)) (C := RX0) (T := TX0) (N := 10) hx hb hts kr_wsX0 hown hK hP 0 rfl rfl 6 (by decide) (hts _ kq_48) (fun _ h9 => h9) rfl dX0_pull_39 ?_
    refine lv_iload_n hx hb dX0_pull_42 rfl (lv_at hl 3 rfl) ?_
    refine kr_ald hx hb hK hP 6 0 rfl rfl q (by omega) (by decide) dX0_pull_43 ?_
    rw [kr_pB5]
    refine lv_icmp_ge (tgt := 80) hx hb dX0_pull_44 (by decide) (fun c44 => ?_) (fun c44 => ?_)
    · have hi2 : i = kr_pr' A q ld := by have := kr_ge (by omega) (by omega) c44; omega
      rw [hi2] at hP hD
      refine lv_iload_n hx hb dX0_pull_80 rfl (lv_at hl 1 rfl) ?_
      exact kr_wI hx hb hr hlocks hP hK hD hS rfl dX0_pull_81
    · have hi : i < kr_pr' A q ld := kr_lt (by omega) (by omega) c44
      have hwi := kr_wf_p hw hq hi0
      refine lv_iload_n hx hb dX0_pull_47 rfl (lv_at hl 3 rfl) ?_
      refine lv_iload hx hb dX0_pull_48 (lv_at hl 0 rfl) ?_
      refine kr_sI (n := 2) (As := [.int (nI q), .int (nI i)]) (rest := []) ⟨hx, hb, hml, hown, hts⟩ (c_X0_slot l q i) kg_RX0_97 ⟨rfl, rfl⟩ (by decide +kernel) ⟨Nat.le_of_ble_eq_true rfl, Nat.le_of_ble_eq_true rfl⟩ ⟨kr_blT, fun U hU hW => ⟨rfl, trivial⟩⟩ rfl hl.1 rfl (Nat.le_of_ble_eq_true rfl) dX0_pull_50 ⟨Nat.zero_le _, Nat.zero_le _⟩ (fun r9 e9 => ?_)
      subst e9
      refine lv_istore (lv' := [(5, .int (nI (5 * q + i))), (4, .int (nI i)), (3, .int (kr_gw A q ld)), (0, .ref h), (1, .int (nI q)), (2, .int ld)]) hx hb dX0_pull_53 hl (by decide) rfl (fun ls hl => ?_)
      refine lv_aload_n hx hb dX0_pull_55 rfl (lv_at hl 3 rfl) ?_
      refine va_get (ci := 0) (v := .ref (a 6)) (C := RX0) (T := TX0) (N := 10) hx hb hts kr_wsX0 hown hK hP 0 rfl rfl 8 (by decide) (hts _ kq_50) (fun _ h9 => h9) rfl dX0_pull_56 ?_
      refine lv_iload hx hb dX0_pull_59 (lv_at hl 0 rfl) ?_
      refine lv_aload_n hx hb dX0_pull_61 rfl (lv_at hl 3 rfl) ?_
      refine lv_aload_n hx hb dX0_pull_62 rfl (lv_at hl 3 rfl) ?_
      refine va_get (ci := 0) (v := .ref (a 6)) (C := RX0) (T := TX0) (N := 10) hx hb hts kr_wsX0 hown hK hP 0 rfl rfl 8 (by decide) (hts _ kq_50) (fun _ h9 => h9) rfl dX0_pull_63 ?_
      refine lv_iload hx hb dX0_pull_66 (lv_at hl 0 rfl) ?_
      refine kr_ald hx hb hK hP 7 0 rfl rfl (5 * q + i) (by omega) (by decide) dX0_pull_68 ?_
      rw [kr_pB6]
      refine lv_iload_n hx hb dX0_pull_69 rfl (lv_at hl 5 rfl) ?_
      refine kr_vI (n := 2) (As := [.int (A 6 (5 * q + i)), .int ld]) (rest := [.int (nI (5 * q + i)), .ref (a 6)]) ⟨hx, hb, hml, hown, hts⟩ (c_X0_formUnder l D cy h a N L (kr_pB A q ld i) (A 6 (5 * q + i)) ld hwi (hw.tn hq (by omega))) kg_RX0_104 ⟨rfl, rfl⟩ (by decide +kernel) ⟨Nat.le_of_ble_eq_true rfl, Nat.le_of_ble_eq_true rfl⟩ (kr_pv0 hP hK) rfl hl.1 rfl (Nat.le_of_ble_eq_true rfl) dX0_pull_70 ⟨Nat.zero_le _, Nat.zero_le _⟩ (fun r9 e9 => ?_)
      rw [kr_pBf] at e9
      subst e9
      refine kr_ast hx hb hK hP hD hS 7 0 rfl rfl (5 * q + i) (by omega) (by decide) dX0_pull_73 (fun H locs hP hD hS => ?_)
      have hP : va_P D vwCl (kr_W0 cy h a N L (kr_up (kr_pB A q ld i) 6 (upd ((kr_pB A q ld i) 6) (5 * q + i) (kr_fm A ld 16 (A 6 (5 * q + i)))))) H := hP
      have hD : va_D AA (kr_W0 cy h a N L (kr_up (kr_pB A q ld i) 6 (upd ((kr_pB A q ld i) 6) (5 * q + i) (kr_fm A ld 16 (A 6 (5 * q + i)))))) := hD
      rw [show kr_up (kr_pB A q ld i) 6 (upd ((kr_pB A q ld i) 6) (5 * q + i) (kr_fm A ld 16 (A 6 (5 * q + i)))) = kr_pB A q ld (i + 1) from kr_pBs i] at hP hD
      refine lv_iinc (v := nI (i + 1)) (lv' := [(4, .int (nI (i + 1))), (5, .int (nI (5 * q + i))), (3, .int (kr_gw A q ld)), (0, .ref h), (1, .int (nI q)), (2, .int ld)]) hx hb dX0_pull_74 hl (k := 1) rfl (kr_inc _) (by decide) rfl (fun ls hl => ?_)
      refine lv_goto (tgt := 36) hx hb dX0_pull_77 (by decide) ?_
      exact ih (i + 1) _ _ ls ⟨by omega, hP, hD, hS⟩ (by show kr_pr' A q ld - (i + 1) < kr_pr' A q ld - i; omega) (lv_sub hl [0, 2, 3, 4, 5] rfl)
end
section
/-! plain facts to paste, each family by itself; over the kit's nI, lN and upd -/
/-! ===== drawers: more things than places ===== -/
theorem fb_holes : ∀ (m n : Nat) (f : Nat → Nat), (∀ i, i < n → f i < m) → (∀ i j, i < j → j < n → f i ≠ f j) → n ≤ m := by
  intro m
  induction m with
  | zero =>
    intro n f h1 _
    rcases Nat.eq_zero_or_pos n with h | h
    · omega
    · exact absurd (h1 0 h) (Nat.not_lt_zero _)
  | succ m ih =>
    intro n f h1 h2
    by_cases hx : ∃ i, i < n ∧ f i = m
    · obtain ⟨a, ha, hfa⟩ := hx
      have hg := ih (n - 1) (fun i => if i < a then f i else f (i + 1)) (by
        intro i hi
        by_cases q : i < a
        · simp only [if_pos q]
          have b1 := h1 i (by omega)
          have b2 := h2 i a q ha
          omega
        · simp only [if_neg q]
          have b1 := h1 (i + 1) (by omega)
          have b2 := h2 a (i + 1) (by omega) (by omega)
          omega) (by
        intro i j hij hj
        by_cases q : i < a
        · by_cases r : j < a
          · simp only [if_pos q, if_pos r]
            exact h2 i j hij (by omega)
          · simp only [if_pos q, if_neg r]
            exact h2 i (j + 1) (by omega) (by omega)
        · have r : ¬ j < a := by omega
          simp only [if_neg q, if_neg r]
          exact h2 (i + 1) (j + 1) (by omega) (by omega))
      omega
    · have hg := ih n f (fun i hi => by
        have b1 := h1 i hi
        have b2 : f i ≠ m := fun e => hx ⟨i, hi, e⟩
        omega) h2
      omega
/-- two of them in one place -/
theorem fb_twice {m n : Nat} {f : Nat → Nat} (h : ∀ i, i < n → f i < m) (hm : m < n) : ∃ i j, i < j ∧ j < n ∧ f i = f j := by
  refine Classical.byContradiction fun hx => ?_
  have := fb_holes m n f h (fun i j hij hj e => hx ⟨i, j, hij, hj, e⟩)
  omega
/-- as many as places, none twice: each place is taken -/
theorem fb_onto {n : Nat} {f : Nat → Nat} (h : ∀ i, i < n → f i < n) (h2 : ∀ i j, i < j → j < n → f i ≠ f j) {y : Nat} (hy : y < n) : ∃ i, i < n ∧ f i = y := by
  refine Classical.byContradiction fun hx => ?_
  have hne : ∀ i, i < n → f i ≠ y := fun i hi e => hx ⟨i, hi, e⟩
  have := fb_holes (n - 1) n (fun i => if f i < y then f i else f i - 1) (by
    intro i hi
    have b1 := h i hi
    have b2 := hne i hi
    by_cases q : f i < y
    · simp only [if_pos q]; omega
    · simp only [if_neg q]; omega) (by
    intro i j hij hj
    have b1 := hne i (by omega)
    have b2 := hne j hj
    have b3 := h2 i j hij hj
    by_cases q : f i < y
    · by_cases r : f j < y
      · simp only [if_pos q, if_pos r]; exact b3
      · simp only [if_pos q, if_neg r]; omega
    · by_cases r : f j < y
      · simp only [if_neg q, if_pos r]; omega
      · simp only [if_neg q, if_neg r]; omega)
  omega
/-! ===== how many places have a property ===== -/
def fb_ct (p : Nat → Bool) : Nat → Nat
  | 0 => 0
  | n + 1 => fb_ct p n + (if p n then 1 else 0)
theorem fb_ct_succ (p : Nat → Bool) (n : Nat) : fb_ct p (n + 1) = fb_ct p n + (if p n then 1 else 0) := rfl
theorem fb_ct_le (p : Nat → Bool) : ∀ n, fb_ct p n ≤ n
  | 0 => Nat.le_refl _
  | n + 1 => by
    have h := fb_ct_le p n
    rw [fb_ct_succ]
    split <;> omega
theorem fb_ct_step (p : Nat → Bool) (m : Nat) : ∀ n, fb_ct p m ≤ fb_ct p (m + n)
  | 0 => Nat.le_refl _
  | n + 1 => by
    have h := fb_ct_step p m n
    show fb_ct p m ≤ fb_ct p (m + n + 1)
    rw [fb_ct_succ]
    omega
theorem fb_ct_mono (p : Nat → Bool) {m n : Nat} (h : m ≤ n) : fb_ct p m ≤ fb_ct p n := by
  have := fb_ct_step p m (n - m)
  rwa [Nat.add_sub_cancel' h] at this
theorem fb_ct_cong {p q : Nat → Bool} : ∀ {n : Nat}, (∀ k, k < n → p k = q k) → fb_ct p n = fb_ct q n
  | 0, _ => rfl
  | n + 1, h => by
    rw [fb_ct_succ, fb_ct_succ, fb_ct_cong (fun k hk => h k (by omega)), h n (by omega)]
/-- one place changed -/
theorem fb_ct_out (p : Nat → Bool) (b : Bool) {i n : Nat} (h : n ≤ i) : fb_ct (fun k => if k = i then b else p k) n = fb_ct p n :=
  fb_ct_cong fun k hk => if_neg (by omega)
theorem fb_ct_upd (p : Nat → Bool) (b : Bool) {i : Nat} : ∀ {n : Nat}, i < n → fb_ct (fun k => if k = i then b else p k) n + (if p i then 1 else 0) = fb_ct p n + (if b then 1 else 0)
  | 0, h => absurd h (Nat.not_lt_zero i)
  | n + 1, h => by
    rw [fb_ct_succ, fb_ct_succ]
    rcases Nat.lt_or_ge i n with q | q
    · have := fb_ct_upd p b q
      have e : (if n = i then b else p n) = p n := if_neg (by omega)
      rw [e]
      omega
    · have e : i = n := by omega
      subst e
      rw [fb_ct_out p b (Nat.le_refl _)]
      simp only [if_true]
      omega
theorem fb_ct_sub {p q : Nat → Bool} : ∀ {n : Nat}, (∀ k, k < n → p k = true → q k = true) → fb_ct p n ≤ fb_ct q n
  | 0, _ => Nat.le_refl _
  | n + 1, h => by
    have h1 := fb_ct_sub (n := n) (p := p) (q := q) (fun k hk => h k (by omega))
    have h2 := h n (by omega)
    rw [fb_ct_succ, fb_ct_succ]
    cases hp : p n <;> cases hq : q n <;> simp_all <;> omega
theorem fb_ct_or {p q : Nat → Bool} : ∀ {n : Nat}, (∀ k, k < n → ¬ (p k = true ∧ q k = true)) → fb_ct (fun k => p k || q k) n = fb_ct p n + fb_ct q n
  | 0, _ => rfl
  | n + 1, h => by
    have h1 := fb_ct_or (n := n) (p := p) (q := q) (fun k hk => h k (by omega))
    have h2 := h n (by omega)
    rw [fb_ct_succ, fb_ct_succ, fb_ct_succ, h1]
    cases hp : p n <;> cases hq : q n <;> simp_all <;> omega
theorem fb_ct_not (p : Nat → Bool) : ∀ n, fb_ct p n + fb_ct (fun k => !p k) n = n
  | 0 => rfl
  | n + 1 => by
    have h := fb_ct_not p n
    rw [fb_ct_succ, fb_ct_succ]
    cases p n <;> simp <;> omega
theorem fb_ct_split (p : Nat → Bool) (m : Nat) : ∀ n, fb_ct p (m + n) = fb_ct p m + fb_ct (fun k => p (m + k)) n
  | 0 => rfl
  | n + 1 => by
    have h := fb_ct_split p m n
    show fb_ct p (m + n + 1) = _
    rw [fb_ct_succ, fb_ct_succ, h, Nat.add_assoc]
theorem fb_ct_zero {p : Nat → Bool} : ∀ {n : Nat}, fb_ct p n = 0 ↔ ∀ k, k < n → p k = false
  | 0 => ⟨fun _ k hk => absurd hk (Nat.not_lt_zero k), fun _ => rfl⟩
  | n + 1 => by
    have h := fb_ct_zero (p := p) (n := n)
    rw [fb_ct_succ]
    constructor
    · intro e k hk
      have e1 : fb_ct p n = 0 := by omega
      rcases Nat.lt_or_ge k n with q | q
      · exact h.mp e1 k q
      · have ek : k = n := by omega
        subst ek
        cases hp : p k
        · rfl
        · simp [hp] at e
    · intro a
      rw [h.mpr (fun k hk => a k (by omega)), a n (by omega)]
      rfl
theorem fb_ct_pos {p : Nat → Bool} {n : Nat} : 0 < fb_ct p n ↔ ∃ k, k < n ∧ p k = true := by
  constructor
  · intro h
    refine Classical.byContradiction fun hx => ?_
    have := fb_ct_zero.mpr (fun k hk => by
      cases hp : p k
      · rfl
      · exact absurd ⟨k, hk, hp⟩ hx : ∀ k, k < n → p k = false)
    omega
  · rintro ⟨k, hk, hp⟩
    rcases Nat.eq_zero_or_pos (fb_ct p n) with e | e
    · have := fb_ct_zero.mp e k hk
      rw [this] at hp
      cases hp
    · exact e
theorem fb_ct_all {p : Nat → Bool} {n : Nat} : fb_ct p n = n ↔ ∀ k, k < n → p k = true := by
  have h := fb_ct_not p n
  constructor
  · intro e k hk
    have z : fb_ct (fun k => !p k) n = 0 := by omega
    have := fb_ct_zero.mp z k hk
    cases hp : p k
    · simp [hp] at this
    · rfl
  · intro a
    have z : fb_ct (fun k => !p k) n = 0 := fb_ct_zero.mpr (fun k hk => by simp [a k hk])
    omega
/-- the k-th place with the property -/
theorem fb_ct_kth {p : Nat → Bool} {k : Nat} : ∀ {n : Nat}, k < fb_ct p n → ∃ i, i < n ∧ p i = true ∧ fb_ct p i = k
  | 0, h => absurd h (Nat.not_lt_zero k)
  | n + 1, h => by
    rcases Nat.lt_or_ge k (fb_ct p n) with q | q
    · obtain ⟨i, h1, h2⟩ := fb_ct_kth q
      exact ⟨i, by omega, h2⟩
    · rw [fb_ct_succ] at h
      cases hp : p n
      · simp [hp] at h; omega
      · simp [hp] at h
        exact ⟨n, by omega, hp, by omega⟩
theorem fb_ct_kth_one {p : Nat → Bool} {i j : Nat} (hi : p i = true) (hj : p j = true) (e : fb_ct p i = fb_ct p j) : i = j := by
  have key : ∀ a b : Nat, a < b → p a = true → fb_ct p a < fb_ct p b := by
    intro a b hab ha
    have h := fb_ct_mono p (show a + 1 ≤ b from hab)
    rw [fb_ct_succ, ha] at h
    simp at h
    omega
  rcases Nat.lt_trichotomy i j with q | q | q
  · have := key i j q hi; omega
  · exact q
  · have := key j i q hj; omega
end
section
/-! the knot that had best be tied: by ranks (the class) and by numbers (the model) -/
theorem kr_ct_lt {p q : Nat → Bool} : ∀ {n k : Nat}, (∀ i, i < n → p i = true → q i = true) → k < n → q k = true → p k = false → fb_ct p n < fb_ct q n
  | 0, k, _, hk, _, _ => absurd hk (Nat.not_lt_zero k)
  | n + 1, k, h, hk, h1, h2 => by
    rw [fb_ct_succ, fb_ct_succ]
    have hs : fb_ct p n ≤ fb_ct q n := fb_ct_sub (fun i hi => h i (by omega))
    by_cases e : k = n
    · subst e
      rw [h1, h2]; simp; omega
    · have := kr_ct_lt (n := n) (fun i hi => h i (by omega)) (by omega) h1 h2
      have h3 := h n (by omega)
      cases hp : p n
      · simp; omega
      · rw [h3 hp]; simp; omega
section KRB
variable {N L : Nat} {A : Nat → Nat → Int32}
theorem kr_cn_ct (kd : Int32) : ∀ n, kr_cn A kd n = fb_ct (fun k => decide (A 0 k = kd)) n
  | 0 => rfl
  | n + 1 => by
    rw [kr_cn_s, fb_ct_succ, kr_cn_ct kd n]
    by_cases h : A 0 n = kd
    · rw [if_pos h, decide_eq_true h]; rfl
    · rw [if_neg h, decide_eq_false h]; rfl
theorem kr_rk_ct (k : Nat) : ∀ n, kr_rk A k n = fb_ct (fun j => decide (kr_ah A j k)) n
  | 0 => rfl
  | n + 1 => by
    rw [kr_rk_s, fb_ct_succ, kr_rk_ct k n]
    by_cases h : kr_ah A n k
    · rw [if_pos h, decide_eq_true h]; rfl
    · rw [if_neg h, decide_eq_false h]; rfl
theorem kr_ia_iff (j k : Nat) : kr_ia A j k ↔ ((A 1 k).toInt < (A 1 j).toInt ∨ (A 1 j).toInt = (A 1 k).toInt ∧ ((A 2 j).toInt < (A 2 k).toInt ∨ (A 2 j).toInt = (A 2 k).toInt ∧ j < k)) := by
  unfold kr_ia
  by_cases h1 : A 1 j = A 1 k
  · rw [if_pos h1, h1]
    by_cases h2 : A 2 j = A 2 k
    · rw [if_pos h2, h2]; omega
    · rw [if_neg h2, Int32.lt_iff_toInt_lt]
      have h3 : ¬ (A 2 j).toInt = (A 2 k).toInt := fun e => h2 (Int32.toInt_inj.mp e)
      omega
  · rw [if_neg h1, Int32.lt_iff_toInt_lt]
    have h3 : ¬ (A 1 j).toInt = (A 1 k).toInt := fun e => h1 (Int32.toInt_inj.mp e)
    omega
theorem kr_ia_tr {i j k : Nat} (h1 : kr_ia A i j) (h2 : kr_ia A j k) : kr_ia A i k := by
  rw [kr_ia_iff] at h1 h2 ⊢; omega
theorem kr_ia_ir (k : Nat) : ¬ kr_ia A k k := by rw [kr_ia_iff]; omega
theorem kr_ia_to {j k : Nat} (h : j ≠ k) : kr_ia A j k ∨ kr_ia A k j := by
  rw [kr_ia_iff, kr_ia_iff]; omega
theorem kr_rk_lt {j k : Nat} (hj : j < N) (h : kr_ah A j k) : kr_rk A j N < kr_rk A k N := by
  rw [kr_rk_ct, kr_rk_ct]
  refine kr_ct_lt (k := j) (fun i hi hp => ?_) hj (decide_eq_true h) (decide_eq_false (fun z => kr_ia_ir j z.2))
  have h1 := of_decide_eq_true hp
  exact decide_eq_true ⟨h1.1.trans h.1, kr_ia_tr h1.2 h.2⟩
theorem kr_rk_inj {j k : Nat} (hj : j < N) (hk : k < N) (h0 : A 0 j = A 0 k) (e : kr_rk A j N = kr_rk A k N) : j = k := by
  refine Decidable.byContradiction (fun hne => ?_)
  rcases kr_ia_to (A := A) hne with h | h
  · have := kr_rk_lt hj ⟨h0, h⟩; omega
  · have := kr_rk_lt hk ⟨h0.symm, h⟩; omega
theorem kr_rk_cn {k : Nat} (hk : k < N) : kr_rk A k N < kr_cn A (A 0 k) N := by
  rw [kr_rk_ct, kr_cn_ct]
  exact kr_ct_lt (k := k) (fun i _ hp => decide_eq_true (of_decide_eq_true hp).1) hk (decide_eq_true rfl) (decide_eq_false (fun z => kr_ia_ir k z.2))
/-- every rank has its knot -/
theorem kr_rk_on {kd : Int32} {r : Nat} (hr : r < kr_cn A kd N) : ∃ k, k < N ∧ A 0 k = kd ∧ kr_rk A k N = r := by
  have hc : ∀ t : Nat, ∃ k : Nat, t < kr_cn A kd N → k < N ∧ A 0 k = kd ∧ fb_ct (fun k => decide (A 0 k = kd)) k = t := by
    intro t
    by_cases ht : t < kr_cn A kd N
    · rw [kr_cn_ct] at ht
      obtain ⟨i, h1, h2, h3⟩ := fb_ct_kth ht
      exact ⟨i, fun _ => ⟨h1, of_decide_eq_true h2, h3⟩⟩
    · exact ⟨0, fun h => absurd h ht⟩
  obtain ⟨f, hf⟩ := Classical.axiomOfChoice hc
  obtain ⟨t, ht, e⟩ := fb_onto (n := kr_cn A kd N) (f := fun t => kr_rk A (f t) N) (fun t ht => by
      obtain ⟨h1, h2, h3⟩ := hf t ht
      have := kr_rk_cn (A := A) h1
      rw [h2] at this; exact this) (fun i j hij hj e => by
      obtain ⟨a1, a2, a3⟩ := hf i (by omega)
      obtain ⟨b1, b2, b3⟩ := hf j hj
      have := kr_rk_inj a1 b1 (a2.trans b2.symm) e
      rw [this] at a3; omega) hr
  obtain ⟨h1, h2, h3⟩ := hf t ht
  exact ⟨f t, h1, h2, e⟩
/-- the knot of a rank, found -/
theorem kr_kw_at {kd : Int32} {k : Nat} (hN : N ≤ 16) (hk : k < N) (h0 : A 0 k = kd) : kr_kw A N kd (nI (kr_rk A k N)) N 0 = nI k := by
  have key : ∀ (n pl : Nat), pl + n = N → pl ≤ k → kr_kw A N kd (nI (kr_rk A k N)) n pl = nI k := by
    intro n
    induction n with
    | zero => intro pl h1 h2; omega
    | succ n ih =>
      intro pl h1 h2
      have e : kr_kw A N kd (nI (kr_rk A k N)) (n + 1) pl = if A 0 pl = kd ∧ nI (kr_rk A pl N) = nI (kr_rk A k N) then nI pl else kr_kw A N kd (nI (kr_rk A k N)) n (pl + 1) := rfl
      rw [e]
      by_cases hp : pl = k
      · subst hp; rw [if_pos ⟨h0, rfl⟩]
      · rw [if_neg (fun z => hp ?_)]
        · exact ih (pl + 1) (by omega) (by omega)
        · have l1 := kr_rk_le (A := A) (k := pl) N
          have l2 := kr_rk_le (A := A) (k := k) N
          exact kr_rk_inj (by omega) hk (z.1.trans h0.symm) ((nI_eq (by omega) (by omega)).mp z.2)
  exact key N 0 (by omega) (Nat.zero_le _)
theorem kr_lh_cg {A' : Nat → Nat → Int32} {g : Int32 → Int32} (h3 : A' 3 = A 3) (h4 : A' 4 = A 4) : ∀ (n : Nat) (x h : Int32), kr_lh A' g n x h = kr_lh A g n x h
  | 0, _, _ => rfl
  | n + 1, x, h => by
    have he : kr_en A' x = kr_en A x := by unfold kr_en; rw [h3]
    rw [kr_lh_e, kr_lh_e, h4, he, kr_lh_cg h3 h4 n, kr_lh_cg h3 h4 n]
theorem kr_rk_cg {A' : Nat → Nat → Int32} (h0 : A' 0 = A 0) (h1 : A' 1 = A 1) (h2 : A' 2 = A 2) (k : Nat) : ∀ n, kr_rk A' k n = kr_rk A k n
  | 0 => rfl
  | n + 1 => by
    rw [kr_rk_s, kr_rk_s, kr_rk_cg h0 h1 h2 k n]
    unfold kr_ah kr_ia
    rw [h0, h1, h2]
/-- with another knot at a place -/
theorem kr_lw_rA (q pl k : Nat) : ∀ (n i : Nat) (c : Int32), i + n < 2 ^ 31 → pl < 2 ^ 31 → kr_lw A q (nI pl) (nI k) n i c = kr_uw (kr_rA A (5 * q + pl) k) q n i c
  | 0, _, _, _, _ => rfl
  | n + 1, i, c, h, hp => by
    show kr_lw A q (nI pl) (nI k) n (i + 1) _ = kr_uw (kr_rA A (5 * q + pl) k) q n (i + 1) _
    rw [kr_lw_rA q pl k n (i + 1) _ (by omega) hp]
    have e1 : (if nI i = nI pl then nI k else A 6 (5 * q + i)) = (kr_rA A (5 * q + pl) k) 6 (5 * q + i) := by
      show _ = upd (A 6) (5 * q + pl) (nI k) (5 * q + i)
      by_cases e : i = pl
      · rw [e, if_pos rfl, pk_us]
      · rw [if_neg (fun z => e ((nI_eq (by omega) hp).mp z)), pk_un (by omega)]
    have e2 : kr_st (kr_rA A (5 * q + pl) k) q i = kr_st A q i := rfl
    rw [e1, e2, kr_lh_cg (A := A) (A' := kr_rA A (5 * q + pl) k) (show kr_rA A (5 * q + pl) k 3 = A 3 from rfl) (show kr_rA A (5 * q + pl) k 4 = A 4 from rfl)]
theorem kr_lu_rA {q pl : Nat} (k : Nat) (hw : kr_wf N L A) (hq : q < L) (hp : pl < kr_rc A q) : kr_lu A q (nI pl) (nI k) = kr_hu (kr_rA A (5 * q + pl) k) q := by
  obtain ⟨hrc, er⟩ := hw.rc hq
  have h5 : ¬ A 5 q = 0 := by rw [er]; exact nI_ne0 (by omega) (by omega)
  unfold kr_lu kr_hu
  rw [if_neg h5, show (kr_rA A (5 * q + pl) k) 5 q = A 5 q from rfl, if_neg h5, show kr_rc (kr_rA A (5 * q + pl) k) q = kr_rc A q from rfl]
  exact kr_lw_rA q pl k _ 0 _ (by omega) (by omega)
end KRB
section KRB2
variable {N L q i0 : Nat} {A : Nat → Nat → Int32} {kd : Int32} {w : Nat → Int32}
/-- b is the best of the knots of S -/
def kr_bp (A : Nat → Nat → Int32) (N : Nat) (kd : Int32) (w : Nat → Int32) (S : Nat → Prop) (b g : Int32) : Prop := ∃ j, j < N ∧ A 0 j = kd ∧ S j ∧ b = nI j ∧ g = w j ∧ ∀ k, k < N → A 0 k = kd → S k → (w k).toInt < (w j).toInt ∨ (w k).toInt = (w j).toInt ∧ kr_rk A j N ≤ kr_rk A k N
theorem kr_bp_one {b b' g g' : Int32} (h1 : kr_bp A N kd w (fun _ => True) b g) (h2 : kr_bp A N kd w (fun _ => True) b' g') : b = b' := by
  obtain ⟨j, a1, a2, -, a3, a4, a5⟩ := h1
  obtain ⟨i, b1, b2, -, b3, b4, b5⟩ := h2
  have c1 := a5 i b1 b2 trivial
  have c2 := b5 j a1 a2 trivial
  have : j = i := kr_rk_inj a1 b1 (a2.trans b2.symm) (by omega)
  rw [a3, b3, this]
theorem kr_bs_ok {z0 : Int32} (hN : N ≤ 16) (hw0 : ∀ k, w k = kr_lu A q z0 (nI k)) (hnn : ∀ k, ¬ w k ≤ -1) : ∀ (n r : Nat) (b g : Int32), r + n = kr_cn A kd N → (r = 0 ∧ b = -1 ∧ g = -1 ∨ kr_bp A N kd w (fun i => kr_rk A i N < r) b g) → (kr_bs A N q z0 kd n r b g = -1 ∧ kr_cn A kd N = 0) ∨ ∃ g', kr_bp A N kd w (fun _ => True) (kr_bs A N q z0 kd n r b g) g'
  | 0, r, b, g, hr, h => by
    show (b = -1 ∧ _) ∨ ∃ g', kr_bp A N kd w (fun _ => True) b g'
    rcases h with ⟨h1, h2, h3⟩ | ⟨j, a1, a2, a3, a4, a5, a6⟩
    · exact Or.inl ⟨h2, by omega⟩
    · refine Or.inr ⟨g, j, a1, a2, trivial, a4, a5, fun i h1 h2 _ => a6 i h1 h2 ?_⟩
      have := kr_rk_cn (A := A) h1
      rw [h2] at this
      show kr_rk A i N < r
      omega
  | n + 1, r, b, g, hr, h => by
    obtain ⟨k, k1, k2, k3⟩ := kr_rk_on (A := A) (N := N) (kd := kd) (r := r) (by omega)
    have ek : kr_kw A N kd (nI r) N 0 = nI k := by rw [← k3]; exact kr_kw_at hN k1 k2
    have e : kr_bs A N q z0 kd (n + 1) r b g = if g < kr_lu A q z0 (kr_kw A N kd (nI r) N 0) then kr_bs A N q z0 kd n (r + 1) (kr_kw A N kd (nI r) N 0) (kr_lu A q z0 (kr_kw A N kd (nI r) N 0)) else kr_bs A N q z0 kd n (r + 1) b g := rfl
    rw [e, ek, ← hw0]
    have same : ∀ i, i < N → A 0 i = kd → kr_rk A i N < r + 1 → i = k ∨ kr_rk A i N < r := by
      intro i c1 c2 c3
      by_cases e2 : kr_rk A i N = r
      · exact Or.inl (kr_rk_inj c1 k1 (c2.trans k2.symm) (e2.trans k3.symm))
      · exact Or.inr (by omega)
    by_cases hg : g < w k
    · rw [if_pos hg]
      refine kr_bs_ok hN hw0 hnn n (r + 1) (nI k) (w k) (by omega) (Or.inr ⟨k, k1, k2, (show kr_rk A k N < r + 1 by omega), rfl, rfl, fun i c1 c2 c3 => ?_⟩)
      rcases same i c1 c2 c3 with rfl | c4
      · exact Or.inr ⟨rfl, Nat.le_refl _⟩
      · rcases h with ⟨h1, h2, h3⟩ | ⟨j, a1, a2, a3, a4, a5, a6⟩
        · omega
        · have h3 := a6 i c1 c2 c4
          rw [a5, Int32.lt_iff_toInt_lt] at hg
          omega
    · rw [if_neg hg]
      rcases h with ⟨h1, h2, h3⟩ | ⟨j, a1, a2, a3, a4, a5, a6⟩
      · rw [h3] at hg; exact absurd (Int32.not_lt.mp hg) (hnn k)
      · refine kr_bs_ok hN hw0 hnn n (r + 1) b g (by omega) (Or.inr ⟨j, a1, a2, ?_, a4, a5, fun i c1 c2 c3 => ?_⟩)
        · have a3 : kr_rk A j N < r := a3
          show kr_rk A j N < r + 1
          omega
        · have a3 : kr_rk A j N < r := a3
          rcases same i c1 c2 c3 with rfl | c4
          · rw [a5, Int32.lt_iff_toInt_lt] at hg
            omega
          · exact a6 i c1 c2 c4
end KRB2
end
section
section KRM
variable {A : Nat → Nat → Int32}
theorem kr_10 : ¬ (1 : Int32) = 0 := by decide
theorem kr_20 : ¬ (2 : Int32) = 0 := by decide
theorem kr_30 : ¬ (3 : Int32) = 0 := by decide
theorem kr_tA1 (L k : Nat) (z : Int32) : kr_up (kr_up (kr_up A 5 (upd (A 5) L 1)) 7 (upd (A 7) (5 * L) z)) 6 (upd (A 6) (5 * L) (nI k)) = kr_tA A L k z := by
  unfold kr_tA kr_jA
  rw [kr_up_sw (kr_up A 5 _) _ _ (show 7 ≠ 6 by decide), kr_up_sw A _ _ (show 5 ≠ 6 by decide), kr_up_sw (kr_up A 6 _) _ _ (show 5 ≠ 7 by decide)]
  rfl
theorem kr_jA1 (q r k : Nat) (z : Int32) : kr_up (kr_up (kr_up A 7 (upd (A 7) (5 * q + r) z)) 6 (upd (A 6) (5 * q + r) (nI k))) 5 (upd (A 5) q (nI (r + 1))) = kr_jA A q r k z := by
  unfold kr_jA
  rw [kr_up_sw A _ _ (show 7 ≠ 6 by decide)]
theorem kr_rA_tw (i k k2 : Nat) : kr_up (kr_rA A i k) 6 (upd (kr_rA A i k 6) i (nI k2)) = kr_rA A i k2 := by
  unfold kr_rA
  rw [kr_upS, kr_upd_tw, kr_up_tw]
theorem kr_rA_id {i k : Nat} (h : A 6 i = nI k) : kr_rA A i k = A := by
  unfold kr_rA
  rw [← h, kr_upd_id, kr_up_id]
theorem kr_rA_bk {i k k2 : Nat} (h : A 6 i = nI k2) : kr_up (kr_rA A i k) 6 (upd (kr_rA A i k 6) i (nI k2)) = A := by
  rw [kr_rA_tw]; exact kr_rA_id h
end KRM
section KRN
variable {A : Nat → Nat → Int32} {N q i0 i : Nat} {kd b g : Int32}
end KRN
end
section
/-! what makes rows; the mean -/
section KRNW
variable {p : Program} {l : Launch} {e : Env} {R : Room} {s : State} {m : MethodId} {args : Array Value} {below : List Frame} {meth : Method} {c : Code} {H : Heap} {locs : List Loc} {cells slots : Nat} {Q : State → Prop} {cc : ByteArray} {pc : Nat} {ls : Array Slot} {rest st : List Value} {D : va_G} {cl : List vw_C} {ws : va_W} {cy : ClassId} {AA : Nat → Prop} {H0 : Heap}
theorem kr_newI (hx : p.tables.exec = Jvm.exec) (hb : c.code = cc) (hts : ∀ w ∈ kr_all, w.before args s = true) (hK : va_K D cl [(cy, .int)] s) (hP : va_P D cl ws H) (hD : va_D AA ws) (hS : va_S AA H0 H locs) (hA : ∀ q : Nat, H0.size ≤ q → AA q) {n : Int32} (N' : Nat) (hn : ¬ n < 0) (hN : n.toNatClampNeg = N') (hb2 : N' ≤ 1000) (hcells : cells + 1 ≤ R.cells) (hslots : slots + N' ≤ R.slots) (hdg : decode cc pc = .ok (.newarray .int, 2))
    (kk : ∀ (q : Nat) (H1 : Heap), va_P D cl (ws ++ [(q, .inl (cy, N', .inl (fun _ => 0)))]) H1 → va_D AA (ws ++ [(q, .inl (cy, N', .inl (fun _ => 0)))]) → va_S AA H0 H1 locs → W p l e R s m args below meth c H1 locs (cells + 1) (slots + N') Q (F0 m (pc + 2) ls (.ref q :: rest))) : W p l e R s m args below meth c H locs cells slots Q (F0 m pc ls (.int n :: rest)) := by
  refine va_newa (atype := .int) hx hb (hts _ kq_73) rfl hK hP hD hS hA (a0 := (N', .inl (fun _ => 0))) (fun _ => rfl) hn hN (show N' * 4 ≤ 536870912 by omega) hcells hslots hdg (fun q cA H1 hK' hP' hD' hS' => ?_)
  have e1 : va_RA s cy .int := (hK.2 0 _ rfl).2
  have e2 : va_RA s cA .int := (hK'.2 1 _ rfl).2
  obtain rfl : cA = cy := Option.some.inj (Eq.trans (Eq.symm e2) e1)
  exact kk q H1 hP' hD' hS'
/-- the first of them: its class comes with it -/
theorem kr_newI0 (hx : p.tables.exec = Jvm.exec) (hb : c.code = cc) (hts : ∀ w ∈ kr_all, w.before args s = true) (hK : va_K D cl [] s) (hP : va_P D cl ws H) (hD : va_D AA ws) (hS : va_S AA H0 H locs) (hA : ∀ q : Nat, H0.size ≤ q → AA q) {n : Int32} (N' : Nat) (hn : ¬ n < 0) (hN : n.toNatClampNeg = N') (hb2 : N' ≤ 1000) (hcells : cells + 1 ≤ R.cells) (hslots : slots + N' ≤ R.slots) (hdg : decode cc pc = .ok (.newarray .int, 2))
    (kk : ∀ (q : Nat) (cy : ClassId) (H1 : Heap), va_K D cl [(cy, .int)] s → va_P D cl (ws ++ [(q, .inl (cy, N', .inl (fun _ => 0)))]) H1 → va_D AA (ws ++ [(q, .inl (cy, N', .inl (fun _ => 0)))]) → va_S AA H0 H1 locs → W p l e R s m args below meth c H1 locs (cells + 1) (slots + N') Q (F0 m (pc + 2) ls (.ref q :: rest))) : W p l e R s m args below meth c H locs cells slots Q (F0 m pc ls (.int n :: rest)) :=
  va_newa (atype := .int) hx hb (hts _ kq_73) rfl hK hP hD hS hA (a0 := (N', .inl (fun _ => 0))) (fun _ => rfl) hn hN (show N' * 4 ≤ 536870912 by omega) hcells hslots hdg (fun q cA H1 hK' hP' hD' hS' => kk q cA H1 hK' hP' hD' hS')
/-- a loop that makes things: what is made is counted with the state -/
theorem kr_lpC {α : Type} {nL : Nat} (lv : α → List (Nat × Value)) (I : α → Heap → List Loc → Prop) (μ cf sf : α → Nat)
    (body : ∀ (q : α) (H : Heap) (locs : List Loc) (ls : Array Slot), I q H locs → lv_has ls nL (lv q) → (∀ (q' : α) (H' : Heap) (locs' : List Loc) (ls' : Array Slot), I q' H' locs' → μ q' < μ q → lv_has ls' nL (lv q') → W p l e R s m args below meth c H' locs' (cf q') (sf q') Q (F0 m pc ls' st)) → W p l e R s m args below meth c H locs (cf q) (sf q) Q (F0 m pc ls st))
    (q0 : α) {H : Heap} {locs : List Loc} (h0 : I q0 H locs) {ls : Array Slot} (hl : lv_has ls nL (lv q0)) : W p l e R s m args below meth c H locs (cf q0) (sf q0) Q (F0 m pc ls st) := by
  have key : ∀ (n : Nat) (q : α) (H : Heap) (locs : List Loc) (ls : Array Slot), μ q < n → I q H locs → lv_has ls nL (lv q) → W p l e R s m args below meth c H locs (cf q) (sf q) Q (F0 m pc ls st) := by
    intro n
    induction n with
    | zero => intro q H locs ls h; omega
    | succ n ih => intro q H locs ls h hI hl; exact body q H locs ls hI hl (fun q' H' locs' ls' hI' hm hl' => ih q' H' locs' ls' (by omega) hI' hl')
  exact key (μ q0 + 1) q0 H locs ls (Nat.lt_succ_self _) h0 hl
end KRNW
def kr_m2 (N : Nat) (A : Nat → Nat → Int32) : UInt64 := if N = 0 then FP.dconst0 else FP.ddiv (FP.i2d (kr_sm A N)) (FP.i2d (nI N))
/-- efficiencies are small -/
def kr_we (N : Nat) (A : Nat → Nat → Int32) : Prop := ∀ k, k < N → ∃ q, q ≤ 100 ∧ A 1 k = nI q
theorem kr_sm_nI {A : Nat → Nat → Int32} : ∀ {N : Nat}, kr_we N A → ∃ q, q ≤ 100 * N ∧ kr_sm A N = nI q
  | 0, _ => ⟨0, Nat.le_refl _, rfl⟩
  | N + 1, h => by
    obtain ⟨q, h1, h2⟩ := kr_sm_nI (N := N) (A := A) (fun k hk => h k (by omega))
    obtain ⟨r, h3, h4⟩ := h N (by omega)
    refine ⟨q + r, by omega, ?_⟩
    show kr_sm A N + A 1 N = _
    rw [h2, h4, nI_add]
theorem kr_rr {f : FP.Core.Fmt} {s : Bool} {A B : Nat} {e : Int} : FP.Core.roundRatio f s A B e ≠ .nan := by
  unfold FP.Core.roundRatio FP.Core.roundAt FP.Core.settle FP.Core.bound
  repeat' split
  all_goals (intro h; cases h)
theorem kr_dn {q n : Nat} (hq : q < 2 ^ 31) (hn : n < 2 ^ 31) (h0 : 0 < n) : FP.Core.val64 (FP.Core.ddiv (FP.Core.i2d (nI q)) (FP.Core.i2d (nI n))) ≠ .nan := by
  have hx := FP.Core.i2d_int (nI q)
  have hy := FP.Core.i2d_int (nI n)
  rw [nI_toInt hq] at hx
  rw [nI_toInt hn] at hy
  rw [FP.Core.val64_ddiv]
  unfold FP.Core.DInt at hx hy
  generalize FP.Core.val64 (FP.Core.i2d (nI q)) = x at hx ⊢
  generalize FP.Core.val64 (FP.Core.i2d (nI n)) = y at hy ⊢
  cases x with
  | nan => exact hx.elim
  | inf _ => exact hx.elim
  | fin s c r =>
    cases y with
    | nan => exact hy.elim
    | inf _ => exact hy.elim
    | fin t d u =>
      have hd : ¬ d = 0 := by
        intro h
        rw [h] at hy
        have hy2 : FP.Core.signed t (0 * 2 ^ u.toNat) = (n : Int) * ((2 ^ (-u).toNat : Nat) : Int) := hy
        rw [Nat.zero_mul] at hy2
        have h1 : 0 < 2 ^ (-u).toNat := Nat.pow_pos (by decide)
        have h2 : FP.Core.signed t 0 = 0 := by cases t <;> rfl
        rw [h2, ← Int.natCast_mul] at hy2
        have h3 : 0 < n * 2 ^ (-u).toNat := Nat.mul_pos h0 h1
        omega
      show (if d = 0 then _ else _) ≠ _
      rw [if_neg hd]
      exact kr_rr
theorem kr_vf {a : UInt64} (h : FP.Core.val64 a ≠ .nan) : vf_n64 a := by
  have h1 := (FP.Core.ne_nan a).mp h
  unfold vf_n64
  rw [UInt64.le_iff_toNat_le, UInt64.toNat_and]
  have e1 : (0x7fffffffffffffff : UInt64).toNat = 2 ^ 63 - 1 := rfl
  have e2 : (0x7ff0000000000000 : UInt64).toNat = 9218868437227405312 := rfl
  rw [e1, e2, Nat.and_two_pow_sub_one_eq_mod]
  exact h1
theorem kr_m2_ne {N : Nat} {A : Nat → Nat → Int32} (hN : N ≤ 16) (h : kr_we N A) : FP.Core.val64 (kr_m2 N A) ≠ .nan := by
  unfold kr_m2
  by_cases h0 : N = 0
  · rw [if_pos h0]; decide +kernel
  · rw [if_neg h0]
    obtain ⟨q, hq, e⟩ := kr_sm_nI h
    rw [e]
    exact kr_dn (by omega) (by omega) (by omega)
theorem kr_m2_vf {N : Nat} {A : Nat → Nat → Int32} (hN : N ≤ 16) (h : kr_we N A) : vf_n64 (kr_m2 N A) := kr_vf (kr_m2_ne hN h)
theorem kr_m2_cmp {N : Nat} {A : Nat → Nat → Int32} {op : CmpOp} (hN : N ≤ 16) (h : kr_we N A) : Op.cmpValue (FP.dcmp (kr_m2 N A) (kr_m2 N A)) op = 0 := by
  rw [show FP.dcmp (kr_m2 N A) (kr_m2 N A) = some .eq from FP.Core.dcmp_self (kr_m2_ne hN h)]
  rfl
end
section
set_option maxHeartbeats 4000000 in
set_option maxRecDepth 100000 in
theorem c_X0_init (l : Launch) (D : va_G) (h sz : Nat) : Met l yX0_init (Cond.code yX0_init cX0_init 1 none :: kr_all) ({ frames := 1, cells := 8, slots := 146, locals := 12 }) (va_Pc [.ref h] (fun U => U.heap.size = sz ∧ va_P D vwCl [(h, .inr (0, [.null, .null, .null, .null, .null, .int 0, .null, .int 0, .null, .null]))] U.heap ∧ va_K D vwCl [] U ∧ va_D (fun _ => True) [(h, .inr (0, [.null, .null, .null, .null, .null, .int 0, .null, .int 0, .null, .null]))])) (va_Qv (fun (_ : ClassId × (Nat → Nat)) => True) (fun u t => va_P D vwCl (kr_W0 u.1 h u.2 0 0 (fun _ _ => 0)) t.heap ∧ va_K D vwCl [(u.1, .int)] t ∧ va_D (va_A [(h, .inr (0, [.null, .null, .null, .null, .null, .int 0, .null, .int 0, .null, .null]))] sz) (kr_W0 u.1 h u.2 0 0 (fun _ _ => 0))) (va_A [(h, .inr (0, [.null, .null, .null, .null, .null, .int 0, .null, .int 0, .null, .null]))] sz)) 8 146 (va_A [(h, .inr (0, [.null, .null, .null, .null, .null, .int 0, .null, .int 0, .null, .null]))] sz) := by
  refine Met.ofW (cc := cX0_init) (maxL := 1) (ret := none) (by decide) rfl ?_
  intro p e s m args below meth c s₁ B hml hv
  obtain ⟨rfl, hsz, hP, hK, hD0⟩ := hv
  have hx := B.exec
  have hb := B.bytes
  have hr := B.returns
  have hts0 := atoms_spec (ws := Cond.code yX0_init cX0_init 1 none :: kr_all) B.pre
  have hts : ∀ w ∈ kr_all, w.before #[.ref h] s = true := fun w hw => hts0 w (List.mem_cons_of_mem _ hw)
  have hown : s.vm.findClass RX0 = some m.cls := findClass_of_methodNamed B.named
  have hlocks := B.notSynchronized
  have hin : meth.name = "<init>" := (name_of_methodNamed B.named B.method).1
  subst hsz
  have hD := hD0.self (sz := s.heap.size)
  generalize hAe : va_A [(h, .inr (0, [.null, .null, .null, .null, .null, .int 0, .null, .int 0, .null, .null]))] s.heap.size = AA at hD ⊢
  have hA : ∀ q : Nat, s.heap.size ≤ q → AA q := fun q h => by rw [← hAe]; exact Or.inr h
  have hS : va_S AA s.heap s.heap [] := va_S.rf
  have hP : va_P D vwCl [(h, .inr (0, [.null, .null, .null, .null, .null, .int 0, .null, .int 0, .null, .null]))] s.heap := hP
  have hl := lv_entry ([.ref h]) (n := 1) (Nat.le_of_ble_eq_true rfl)
  rw [lg_entry_eq]
  generalize (lg_sl ([.ref h]) ++ List.replicate (1 - (lg_sl ([.ref h])).length) Slot.unset).toArray = ls at hl ⊢
  have hl : lv_has ls 1 [(0, .ref h)] := hl
  refine lv_aload_n hx hb dX0_init_0 rfl (lv_at hl 0 rfl) ?_
  refine W.objInit hx hb hown (hts _ kq_39) (hts _ kq_40) (hts _ kq_41) rfl (by rw [hml]; exact hl.1) rfl dX0_init_1 (Nat.le_of_ble_eq_true rfl) (Nat.le_of_ble_eq_true rfl) ?_
  refine W.eq (g2 := F0 m 4 ls []) rfl ?_
  refine lv_aload_n hx hb dX0_init_4 rfl (lv_at hl 0 rfl) ?_
  refine lv_bipush (v := 16) hx hb dX0_init_5 (by decide) ?_
  refine kr_newI0 hx hb hts hK hP hD hS hA 16 (by decide) rfl (by decide) (Nat.le_of_ble_eq_true rfl) (Nat.le_of_ble_eq_true rfl) dX0_init_7 (fun q7 cy H hK hP hD hS => ?_)
  have hP : va_P D vwCl [(h, .inr (0, [.null, .null, .null, .null, .null, .int 0, .null, .int 0, .null, .null])), (q7, .inl (cy, 16, .inl (fun _ => 0)))] H := hP
  have hD : va_D AA [(h, .inr (0, [.null, .null, .null, .null, .null, .int 0, .null, .int 0, .null, .null])), (q7, .inl (cy, 16, .inl (fun _ => 0)))] := hD
  refine va_putF (ci := 0) (v := .ref q7) (ty := .array .int) (C := RX0) (T := TX0) (N := 10) hx hb hts kr_wsX0 tyX0 tyX0_ok nmX0 hown hK hP hD hS 0 rfl rfl 0 (by decide) (hts _ kq_42) (fun _ h9 => h9) rfl hin rfl (by decide +kernel) rfl rfl (Nat.le_of_ble_eq_true rfl) dX0_init_9 (fun H locs hP hD hS => ?_)
  have hP : va_P D vwCl [(h, .inr (0, [.ref q7, .null, .null, .null, .null, .int 0, .null, .int 0, .null, .null])), (q7, .inl (cy, 16, .inl (fun _ => 0)))] H := hP
  have hD : va_D AA [(h, .inr (0, [.ref q7, .null, .null, .null, .null, .int 0, .null, .int 0, .null, .null])), (q7, .inl (cy, 16, .inl (fun _ => 0)))] := hD
  refine lv_aload_n hx hb dX0_init_12 rfl (lv_at hl 0 rfl) ?_
  refine lv_bipush (v := 16) hx hb dX0_init_13 (by decide) ?_
  refine kr_newI hx hb hts hK hP hD hS hA 16 (by decide) rfl (by decide) (Nat.le_of_ble_eq_true rfl) (Nat.le_of_ble_eq_true rfl) dX0_init_15 (fun q15 H hP hD hS => ?_)
  have hP : va_P D vwCl [(h, .inr (0, [.ref q7, .null, .null, .null, .null, .int 0, .null, .int 0, .null, .null])), (q7, .inl (cy, 16, .inl (fun _ => 0))), (q15, .inl (cy, 16, .inl (fun _ => 0)))] H := hP
  have hD : va_D AA [(h, .inr (0, [.ref q7, .null, .null, .null, .null, .int 0, .null, .int 0, .null, .null])), (q7, .inl (cy, 16, .inl (fun _ => 0))), (q15, .inl (cy, 16, .inl (fun _ => 0)))] := hD
  refine va_putF (ci := 0) (v := .ref q15) (ty := .array .int) (C := RX0) (T := TX0) (N := 10) hx hb hts kr_wsX0 tyX0 tyX0_ok nmX0 hown hK hP hD hS 0 rfl rfl 1 (by decide) (hts _ kq_43) (fun _ h9 => h9) rfl hin rfl (by decide +kernel) rfl rfl (Nat.le_of_ble_eq_true rfl) dX0_init_17 (fun H locs hP hD hS => ?_)
  have hP : va_P D vwCl [(h, .inr (0, [.ref q7, .ref q15, .null, .null, .null, .int 0, .null, .int 0, .null, .null])), (q7, .inl (cy, 16, .inl (fun _ => 0))), (q15, .inl (cy, 16, .inl (fun _ => 0)))] H := hP
  have hD : va_D AA [(h, .inr (0, [.ref q7, .ref q15, .null, .null, .null, .int 0, .null, .int 0, .null, .null])), (q7, .inl (cy, 16, .inl (fun _ => 0))), (q15, .inl (cy, 16, .inl (fun _ => 0)))] := hD
  refine lv_aload_n hx hb dX0_init_20 rfl (lv_at hl 0 rfl) ?_
  refine lv_bipush (v := 16) hx hb dX0_init_21 (by decide) ?_
  refine kr_newI hx hb hts hK hP hD hS hA 16 (by decide) rfl (by decide) (Nat.le_of_ble_eq_true rfl) (Nat.le_of_ble_eq_true rfl) dX0_init_23 (fun q23 H hP hD hS => ?_)
  have hP : va_P D vwCl [(h, .inr (0, [.ref q7, .ref q15, .null, .null, .null, .int 0, .null, .int 0, .null, .null])), (q7, .inl (cy, 16, .inl (fun _ => 0))), (q15, .inl (cy, 16, .inl (fun _ => 0))), (q23, .inl (cy, 16, .inl (fun _ => 0)))] H := hP
  have hD : va_D AA [(h, .inr (0, [.ref q7, .ref q15, .null, .null, .null, .int 0, .null, .int 0, .null, .null])), (q7, .inl (cy, 16, .inl (fun _ => 0))), (q15, .inl (cy, 16, .inl (fun _ => 0))), (q23, .inl (cy, 16, .inl (fun _ => 0)))] := hD
  refine va_putF (ci := 0) (v := .ref q23) (ty := .array .int) (C := RX0) (T := TX0) (N := 10) hx hb hts kr_wsX0 tyX0 tyX0_ok nmX0 hown hK hP hD hS 0 rfl rfl 2 (by decide) (hts _ kq_44) (fun _ h9 => h9) rfl hin rfl (by decide +kernel) rfl rfl (Nat.le_of_ble_eq_true rfl) dX0_init_25 (fun H locs hP hD hS => ?_)
  have hP : va_P D vwCl [(h, .inr (0, [.ref q7, .ref q15, .ref q23, .null, .null, .int 0, .null, .int 0, .null, .null])), (q7, .inl (cy, 16, .inl (fun _ => 0))), (q15, .inl (cy, 16, .inl (fun _ => 0))), (q23, .inl (cy, 16, .inl (fun _ => 0)))] H := hP
  have hD : va_D AA [(h, .inr (0, [.ref q7, .ref q15, .ref q23, .null, .null, .int 0, .null, .int 0, .null, .null])), (q7, .inl (cy, 16, .inl (fun _ => 0))), (q15, .inl (cy, 16, .inl (fun _ => 0))), (q23, .inl (cy, 16, .inl (fun _ => 0)))] := hD
  refine lv_aload_n hx hb dX0_init_28 rfl (lv_at hl 0 rfl) ?_
  refine lv_bipush (v := 16) hx hb dX0_init_29 (by decide) ?_
  refine kr_newI hx hb hts hK hP hD hS hA 16 (by decide) rfl (by decide) (Nat.le_of_ble_eq_true rfl) (Nat.le_of_ble_eq_true rfl) dX0_init_31 (fun q31 H hP hD hS => ?_)
  have hP : va_P D vwCl [(h, .inr (0, [.ref q7, .ref q15, .ref q23, .null, .null, .int 0, .null, .int 0, .null, .null])), (q7, .inl (cy, 16, .inl (fun _ => 0))), (q15, .inl (cy, 16, .inl (fun _ => 0))), (q23, .inl (cy, 16, .inl (fun _ => 0))), (q31, .inl (cy, 16, .inl (fun _ => 0)))] H := hP
  have hD : va_D AA [(h, .inr (0, [.ref q7, .ref q15, .ref q23, .null, .null, .int 0, .null, .int 0, .null, .null])), (q7, .inl (cy, 16, .inl (fun _ => 0))), (q15, .inl (cy, 16, .inl (fun _ => 0))), (q23, .inl (cy, 16, .inl (fun _ => 0))), (q31, .inl (cy, 16, .inl (fun _ => 0)))] := hD
  refine va_putF (ci := 0) (v := .ref q31) (ty := .array .int) (C := RX0) (T := TX0) (N := 10) hx hb hts kr_wsX0 tyX0 tyX0_ok nmX0 hown hK hP hD hS 0 rfl rfl 3 (by decide) (hts _ kq_45) (fun _ h9 => h9) rfl hin rfl (by decide +kernel) rfl rfl (Nat.le_of_ble_eq_true rfl) dX0_init_33 (fun H locs hP hD hS => ?_)
  have hP : va_P D vwCl [(h, .inr (0, [.ref q7, .ref q15, .ref q23, .ref q31, .null, .int 0, .null, .int 0, .null, .null])), (q7, .inl (cy, 16, .inl (fun _ => 0))), (q15, .inl (cy, 16, .inl (fun _ => 0))), (q23, .inl (cy, 16, .inl (fun _ => 0))), (q31, .inl (cy, 16, .inl (fun _ => 0)))] H := hP
  have hD : va_D AA [(h, .inr (0, [.ref q7, .ref q15, .ref q23, .ref q31, .null, .int 0, .null, .int 0, .null, .null])), (q7, .inl (cy, 16, .inl (fun _ => 0))), (q15, .inl (cy, 16, .inl (fun _ => 0))), (q23, .inl (cy, 16, .inl (fun _ => 0))), (q31, .inl (cy, 16, .inl (fun _ => 0)))] := hD
  refine lv_aload_n hx hb dX0_init_36 rfl (lv_at hl 0 rfl) ?_
  refine lv_bipush (v := 16) hx hb dX0_init_37 (by decide) ?_
  refine kr_newI hx hb hts hK hP hD hS hA 16 (by decide) rfl (by decide) (Nat.le_of_ble_eq_true rfl) (Nat.le_of_ble_eq_true rfl) dX0_init_39 (fun q39 H hP hD hS => ?_)
  have hP : va_P D vwCl [(h, .inr (0, [.ref q7, .ref q15, .ref q23, .ref q31, .null, .int 0, .null, .int 0, .null, .null])), (q7, .inl (cy, 16, .inl (fun _ => 0))), (q15, .inl (cy, 16, .inl (fun _ => 0))), (q23, .inl (cy, 16, .inl (fun _ => 0))), (q31, .inl (cy, 16, .inl (fun _ => 0))), (q39, .inl (cy, 16, .inl (fun _ => 0)))] H := hP
  have hD : va_D AA [(h, .inr (0, [.ref q7, .ref q15, .ref q23, .ref q31, .null, .int 0, .null, .int 0, .null, .null])), (q7, .inl (cy, 16, .inl (fun _ => 0))), (q15, .inl (cy, 16, .inl (fun _ => 0))), (q23, .inl (cy, 16, .inl (fun _ => 0))), (q31, .inl (cy, 16, .inl (fun _ => 0))), (q39, .inl (cy, 16, .inl (fun _ => 0)))] := hD
  refine va_putF (ci := 0) (v := .ref q39) (ty := .array .int) (C := RX0) (T := TX0) (N := 10) hx hb hts kr_wsX0 tyX0 tyX0_ok nmX0 hown hK hP hD hS 0 rfl rfl 4 (by decide) (hts _ kq_46) (fun _ h9 => h9) rfl hin rfl (by decide +kernel) rfl rfl (Nat.le_of_ble_eq_true rfl) dX0_init_41 (fun H locs hP hD hS => ?_)
  have hP : va_P D vwCl [(h, .inr (0, [.ref q7, .ref q15, .ref q23, .ref q31, .ref q39, .int 0, .null, .int 0, .null, .null])), (q7, .inl (cy, 16, .inl (fun _ => 0))), (q15, .inl (cy, 16, .inl (fun _ => 0))), (q23, .inl (cy, 16, .inl (fun _ => 0))), (q31, .inl (cy, 16, .inl (fun _ => 0))), (q39, .inl (cy, 16, .inl (fun _ => 0)))] H := hP
  have hD : va_D AA [(h, .inr (0, [.ref q7, .ref q15, .ref q23, .ref q31, .ref q39, .int 0, .null, .int 0, .null, .null])), (q7, .inl (cy, 16, .inl (fun _ => 0))), (q15, .inl (cy, 16, .inl (fun _ => 0))), (q23, .inl (cy, 16, .inl (fun _ => 0))), (q31, .inl (cy, 16, .inl (fun _ => 0))), (q39, .inl (cy, 16, .inl (fun _ => 0)))] := hD
  refine lv_aload_n hx hb dX0_init_44 rfl (lv_at hl 0 rfl) ?_
  refine lv_iconst (v := 0) hx hb dX0_init_45 (by decide) ?_
  refine va_put (ci := 0) (v := .int 0) (ty := .int) (C := RX0) (T := TX0) (N := 10) hx hb hts kr_wsX0 tyX0 tyX0_ok nmX0 hown hK hP hD hS 0 rfl rfl 5 (by decide) (hts _ kq_47) (fun _ h9 => h9) rfl (by decide +kernel) rfl rfl (Nat.le_of_ble_eq_true rfl) dX0_init_46 (fun H locs hP hD hS => ?_)
  have hP : va_P D vwCl [(h, .inr (0, [.ref q7, .ref q15, .ref q23, .ref q31, .ref q39, .int 0, .null, .int 0, .null, .null])), (q7, .inl (cy, 16, .inl (fun _ => 0))), (q15, .inl (cy, 16, .inl (fun _ => 0))), (q23, .inl (cy, 16, .inl (fun _ => 0))), (q31, .inl (cy, 16, .inl (fun _ => 0))), (q39, .inl (cy, 16, .inl (fun _ => 0)))] H := hP
  have hD : va_D AA [(h, .inr (0, [.ref q7, .ref q15, .ref q23, .ref q31, .ref q39, .int 0, .null, .int 0, .null, .null])), (q7, .inl (cy, 16, .inl (fun _ => 0))), (q15, .inl (cy, 16, .inl (fun _ => 0))), (q23, .inl (cy, 16, .inl (fun _ => 0))), (q31, .inl (cy, 16, .inl (fun _ => 0))), (q39, .inl (cy, 16, .inl (fun _ => 0)))] := hD
  refine lv_aload_n hx hb dX0_init_49 rfl (lv_at hl 0 rfl) ?_
  refine lv_bipush (v := 6) hx hb dX0_init_50 (by decide) ?_
  refine kr_newI hx hb hts hK hP hD hS hA 6 (by decide) rfl (by decide) (Nat.le_of_ble_eq_true rfl) (Nat.le_of_ble_eq_true rfl) dX0_init_52 (fun q52 H hP hD hS => ?_)
  have hP : va_P D vwCl [(h, .inr (0, [.ref q7, .ref q15, .ref q23, .ref q31, .ref q39, .int 0, .null, .int 0, .null, .null])), (q7, .inl (cy, 16, .inl (fun _ => 0))), (q15, .inl (cy, 16, .inl (fun _ => 0))), (q23, .inl (cy, 16, .inl (fun _ => 0))), (q31, .inl (cy, 16, .inl (fun _ => 0))), (q39, .inl (cy, 16, .inl (fun _ => 0))), (q52, .inl (cy, 6, .inl (fun _ => 0)))] H := hP
  have hD : va_D AA [(h, .inr (0, [.ref q7, .ref q15, .ref q23, .ref q31, .ref q39, .int 0, .null, .int 0, .null, .null])), (q7, .inl (cy, 16, .inl (fun _ => 0))), (q15, .inl (cy, 16, .inl (fun _ => 0))), (q23, .inl (cy, 16, .inl (fun _ => 0))), (q31, .inl (cy, 16, .inl (fun _ => 0))), (q39, .inl (cy, 16, .inl (fun _ => 0))), (q52, .inl (cy, 6, .inl (fun _ => 0)))] := hD
  refine va_putF (ci := 0) (v := .ref q52) (ty := .array .int) (C := RX0) (T := TX0) (N := 10) hx hb hts kr_wsX0 tyX0 tyX0_ok nmX0 hown hK hP hD hS 0 rfl rfl 6 (by decide) (hts _ kq_48) (fun _ h9 => h9) rfl hin rfl (by decide +kernel) rfl rfl (Nat.le_of_ble_eq_true rfl) dX0_init_54 (fun H locs hP hD hS => ?_)
  have hP : va_P D vwCl [(h, .inr (0, [.ref q7, .ref q15, .ref q23, .ref q31, .ref q39, .int 0, .ref q52, .int 0, .null, .null])), (q7, .inl (cy, 16, .inl (fun _ => 0))), (q15, .inl (cy, 16, .inl (fun _ => 0))), (q23, .inl (cy, 16, .inl (fun _ => 0))), (q31, .inl (cy, 16, .inl (fun _ => 0))), (q39, .inl (cy, 16, .inl (fun _ => 0))), (q52, .inl (cy, 6, .inl (fun _ => 0)))] H := hP
  have hD : va_D AA [(h, .inr (0, [.ref q7, .ref q15, .ref q23, .ref q31, .ref q39, .int 0, .ref q52, .int 0, .null, .null])), (q7, .inl (cy, 16, .inl (fun _ => 0))), (q15, .inl (cy, 16, .inl (fun _ => 0))), (q23, .inl (cy, 16, .inl (fun _ => 0))), (q31, .inl (cy, 16, .inl (fun _ => 0))), (q39, .inl (cy, 16, .inl (fun _ => 0))), (q52, .inl (cy, 6, .inl (fun _ => 0)))] := hD
  refine lv_aload_n hx hb dX0_init_57 rfl (lv_at hl 0 rfl) ?_
  refine lv_iconst (v := 0) hx hb dX0_init_58 (by decide) ?_
  refine va_put (ci := 0) (v := .int 0) (ty := .int) (C := RX0) (T := TX0) (N := 10) hx hb hts kr_wsX0 tyX0 tyX0_ok nmX0 hown hK hP hD hS 0 rfl rfl 7 (by decide) (hts _ kq_49) (fun _ h9 => h9) rfl (by decide +kernel) rfl rfl (Nat.le_of_ble_eq_true rfl) dX0_init_59 (fun H locs hP hD hS => ?_)
  have hP : va_P D vwCl [(h, .inr (0, [.ref q7, .ref q15, .ref q23, .ref q31, .ref q39, .int 0, .ref q52, .int 0, .null, .null])), (q7, .inl (cy, 16, .inl (fun _ => 0))), (q15, .inl (cy, 16, .inl (fun _ => 0))), (q23, .inl (cy, 16, .inl (fun _ => 0))), (q31, .inl (cy, 16, .inl (fun _ => 0))), (q39, .inl (cy, 16, .inl (fun _ => 0))), (q52, .inl (cy, 6, .inl (fun _ => 0)))] H := hP
  have hD : va_D AA [(h, .inr (0, [.ref q7, .ref q15, .ref q23, .ref q31, .ref q39, .int 0, .ref q52, .int 0, .null, .null])), (q7, .inl (cy, 16, .inl (fun _ => 0))), (q15, .inl (cy, 16, .inl (fun _ => 0))), (q23, .inl (cy, 16, .inl (fun _ => 0))), (q31, .inl (cy, 16, .inl (fun _ => 0))), (q39, .inl (cy, 16, .inl (fun _ => 0))), (q52, .inl (cy, 6, .inl (fun _ => 0)))] := hD
  refine lv_aload_n hx hb dX0_init_62 rfl (lv_at hl 0 rfl) ?_
  refine lv_bipush (v := 30) hx hb dX0_init_63 (by decide) ?_
  refine kr_newI hx hb hts hK hP hD hS hA 30 (by decide) rfl (by decide) (Nat.le_of_ble_eq_true rfl) (Nat.le_of_ble_eq_true rfl) dX0_init_65 (fun q65 H hP hD hS => ?_)
  have hP : va_P D vwCl [(h, .inr (0, [.ref q7, .ref q15, .ref q23, .ref q31, .ref q39, .int 0, .ref q52, .int 0, .null, .null])), (q7, .inl (cy, 16, .inl (fun _ => 0))), (q15, .inl (cy, 16, .inl (fun _ => 0))), (q23, .inl (cy, 16, .inl (fun _ => 0))), (q31, .inl (cy, 16, .inl (fun _ => 0))), (q39, .inl (cy, 16, .inl (fun _ => 0))), (q52, .inl (cy, 6, .inl (fun _ => 0))), (q65, .inl (cy, 30, .inl (fun _ => 0)))] H := hP
  have hD : va_D AA [(h, .inr (0, [.ref q7, .ref q15, .ref q23, .ref q31, .ref q39, .int 0, .ref q52, .int 0, .null, .null])), (q7, .inl (cy, 16, .inl (fun _ => 0))), (q15, .inl (cy, 16, .inl (fun _ => 0))), (q23, .inl (cy, 16, .inl (fun _ => 0))), (q31, .inl (cy, 16, .inl (fun _ => 0))), (q39, .inl (cy, 16, .inl (fun _ => 0))), (q52, .inl (cy, 6, .inl (fun _ => 0))), (q65, .inl (cy, 30, .inl (fun _ => 0)))] := hD
  refine va_putF (ci := 0) (v := .ref q65) (ty := .array .int) (C := RX0) (T := TX0) (N := 10) hx hb hts kr_wsX0 tyX0 tyX0_ok nmX0 hown hK hP hD hS 0 rfl rfl 8 (by decide) (hts _ kq_50) (fun _ h9 => h9) rfl hin rfl (by decide +kernel) rfl rfl (Nat.le_of_ble_eq_true rfl) dX0_init_67 (fun H locs hP hD hS => ?_)
  have hP : va_P D vwCl [(h, .inr (0, [.ref q7, .ref q15, .ref q23, .ref q31, .ref q39, .int 0, .ref q52, .int 0, .ref q65, .null])), (q7, .inl (cy, 16, .inl (fun _ => 0))), (q15, .inl (cy, 16, .inl (fun _ => 0))), (q23, .inl (cy, 16, .inl (fun _ => 0))), (q31, .inl (cy, 16, .inl (fun _ => 0))), (q39, .inl (cy, 16, .inl (fun _ => 0))), (q52, .inl (cy, 6, .inl (fun _ => 0))), (q65, .inl (cy, 30, .inl (fun _ => 0)))] H := hP
  have hD : va_D AA [(h, .inr (0, [.ref q7, .ref q15, .ref q23, .ref q31, .ref q39, .int 0, .ref q52, .int 0, .ref q65, .null])), (q7, .inl (cy, 16, .inl (fun _ => 0))), (q15, .inl (cy, 16, .inl (fun _ => 0))), (q23, .inl (cy, 16, .inl (fun _ => 0))), (q31, .inl (cy, 16, .inl (fun _ => 0))), (q39, .inl (cy, 16, .inl (fun _ => 0))), (q52, .inl (cy, 6, .inl (fun _ => 0))), (q65, .inl (cy, 30, .inl (fun _ => 0)))] := hD
  refine lv_aload_n hx hb dX0_init_70 rfl (lv_at hl 0 rfl) ?_
  refine lv_bipush (v := 30) hx hb dX0_init_71 (by decide) ?_
  refine kr_newI hx hb hts hK hP hD hS hA 30 (by decide) rfl (by decide) (Nat.le_of_ble_eq_true rfl) (Nat.le_of_ble_eq_true rfl) dX0_init_73 (fun q73 H hP hD hS => ?_)
  have hP : va_P D vwCl [(h, .inr (0, [.ref q7, .ref q15, .ref q23, .ref q31, .ref q39, .int 0, .ref q52, .int 0, .ref q65, .null])), (q7, .inl (cy, 16, .inl (fun _ => 0))), (q15, .inl (cy, 16, .inl (fun _ => 0))), (q23, .inl (cy, 16, .inl (fun _ => 0))), (q31, .inl (cy, 16, .inl (fun _ => 0))), (q39, .inl (cy, 16, .inl (fun _ => 0))), (q52, .inl (cy, 6, .inl (fun _ => 0))), (q65, .inl (cy, 30, .inl (fun _ => 0))), (q73, .inl (cy, 30, .inl (fun _ => 0)))] H := hP
  have hD : va_D AA [(h, .inr (0, [.ref q7, .ref q15, .ref q23, .ref q31, .ref q39, .int 0, .ref q52, .int 0, .ref q65, .null])), (q7, .inl (cy, 16, .inl (fun _ => 0))), (q15, .inl (cy, 16, .inl (fun _ => 0))), (q23, .inl (cy, 16, .inl (fun _ => 0))), (q31, .inl (cy, 16, .inl (fun _ => 0))), (q39, .inl (cy, 16, .inl (fun _ => 0))), (q52, .inl (cy, 6, .inl (fun _ => 0))), (q65, .inl (cy, 30, .inl (fun _ => 0))), (q73, .inl (cy, 30, .inl (fun _ => 0)))] := hD
  refine va_putF (ci := 0) (v := .ref q73) (ty := .array .int) (C := RX0) (T := TX0) (N := 10) hx hb hts kr_wsX0 tyX0 tyX0_ok nmX0 hown hK hP hD hS 0 rfl rfl 9 (by decide) (hts _ kq_51) (fun _ h9 => h9) rfl hin rfl (by decide +kernel) rfl rfl (Nat.le_of_ble_eq_true rfl) dX0_init_75 (fun H locs hP hD hS => ?_)
  have hP : va_P D vwCl [(h, .inr (0, [.ref q7, .ref q15, .ref q23, .ref q31, .ref q39, .int 0, .ref q52, .int 0, .ref q65, .ref q73])), (q7, .inl (cy, 16, .inl (fun _ => 0))), (q15, .inl (cy, 16, .inl (fun _ => 0))), (q23, .inl (cy, 16, .inl (fun _ => 0))), (q31, .inl (cy, 16, .inl (fun _ => 0))), (q39, .inl (cy, 16, .inl (fun _ => 0))), (q52, .inl (cy, 6, .inl (fun _ => 0))), (q65, .inl (cy, 30, .inl (fun _ => 0))), (q73, .inl (cy, 30, .inl (fun _ => 0)))] H := hP
  have hD : va_D AA [(h, .inr (0, [.ref q7, .ref q15, .ref q23, .ref q31, .ref q39, .int 0, .ref q52, .int 0, .ref q65, .ref q73])), (q7, .inl (cy, 16, .inl (fun _ => 0))), (q15, .inl (cy, 16, .inl (fun _ => 0))), (q23, .inl (cy, 16, .inl (fun _ => 0))), (q31, .inl (cy, 16, .inl (fun _ => 0))), (q39, .inl (cy, 16, .inl (fun _ => 0))), (q52, .inl (cy, 6, .inl (fun _ => 0))), (q65, .inl (cy, 30, .inl (fun _ => 0))), (q73, .inl (cy, 30, .inl (fun _ => 0)))] := hD
  obtain ⟨a, ha⟩ : ∃ a : Nat → Nat, a = fun k => match k with | 0 => q7 | 1 => q15 | 2 => q23 | 3 => q31 | 4 => q39 | 5 => q52 | 6 => q65 | _ => q73 := ⟨_, rfl⟩
  have hP9 : va_P D vwCl (kr_W0 cy h a 0 0 (fun _ _ => 0)) H := by subst ha; exact hP.sub [0, 1, 2, 3, 4, 5, 6, 7, 8] rfl
  have hD9 : va_D AA (kr_W0 cy h a 0 0 (fun _ _ => 0)) := by subst ha; exact hD.sub [0, 1, 2, 3, 4, 5, 6, 7, 8] (by decide) rfl
  exact W.vret hx hb hr (fun t ht hW => ⟨⟨(cy, a), rfl, trivial, by rw [ht]; exact hP9, va_K.moved hW.alike hK, hD9⟩, hS.F ht⟩) hS.2.2 dX0_init_78 hlocks
end
section
section KRD
variable {p : Program} {l : Launch} {e : Env} {R : Room} {s : State} {m : MethodId} {args : Array Value} {below : List Frame} {meth : Method} {c : Code} {H : Heap} {locs : List Loc} {cells slots : Nat} {cc : ByteArray} {pc : Nat} {ls : Array Slot} {D : va_G} {ws : va_W} {cy : ClassId} {AA : Nat → Prop}
theorem kr_eD {post : UInt64 → Prop} {v : UInt64} (hx : p.tables.exec = Jvm.exec) (hb : c.code = cc) (hr : meth.sig.returnType = some .double) (hlocks : meth.locks = false) (hH : H = s.heap) (hp : post v) (hdg : decode cc pc = .ok (.dreturn, 1)) : W p l e R s m args below meth c H [] cells slots (MQ below (vp_Sd post) args s cells slots (fun _ => False)) (F0 m pc ls [.double v]) := W.dret hx hb hr (fun t ht _ => ⟨v, rfl, hp, ht.trans hH⟩) (fun q hq => absurd hq List.not_mem_nil) hdg hlocks
theorem kr_wD {post : UInt64 → Prop} {v : UInt64} (hx : p.tables.exec = Jvm.exec) (hb : c.code = cc) (hr : meth.sig.returnType = some .double) (hlocks : meth.locks = false) (hP : va_P D vwCl ws H) (hK : va_K D vwCl [(cy, .int)] s) (hD : va_D AA ws) (hS : va_S AA s.heap H locs) (hp : post v) (hdg : decode cc pc = .ok (.dreturn, 1)) : W p l e R s m args below meth c H locs cells slots (MQ below (va_Qd (fun r (_ : Unit) => post r) (fun _ t => kr_Rq D ws cy AA t) AA) args s cells slots AA) (F0 m pc ls [.double v]) := W.dret hx hb hr (fun t ht hW => ⟨⟨v, (), rfl, hp, by rw [ht]; exact hP, va_K.moved hW.alike hK, hD⟩, hS.F ht⟩) hS.2.2 hdg hlocks
end KRD
/-- d, worked on with the first n words of a row -/
def kr_df (G : Nat → Int32) (d : Int64) : Nat → Int64
  | 0 => d
  | n + 1 => kr_dw (kr_df G d n) (G n)
set_option maxHeartbeats 4000000 in
set_option maxRecDepth 100000 in
theorem c_X0_meanEfficiency (l : Launch) (D : va_G) (cy : ClassId) (h : Nat) (a : Nat → Nat) (N L : Nat) (A : Nat → Nat → Int32) (hN : N ≤ 16) (hwe : kr_we N A) : Met l yX0_meanEfficiency (Cond.code yX0_meanEfficiency cX0_meanEfficiency 3 (some .double) :: kr_all) ({ frames := 0, cells := 0, slots := 0, locals := 0 }) (va_Pc [.ref h] (kr_R D (kr_W0 cy h a N L A) cy)) (vp_Sd (fun r => r = kr_m2 N A)) 0 0 (fun _ => False) := by
  refine kr_of (by decide) (Nat.le_of_ble_eq_true rfl) ?_
  intro p e s m below meth c ls hx hb hml hr hts hown hlocks hin hv hl
  obtain ⟨hP, hK⟩ := hv
  have hown : s.vm.findClass RX0 = some m.cls := hown
  have hl : lv_has ls 3 [(0, .ref h)] := hl
  refine lv_aload_n hx hb dX0_meanEfficiency_0 rfl (lv_at hl 0 rfl) ?_
  refine va_get (ci := 0) (v := .int (nI N)) (C := RX0) (T := TX0) (N := 10) hx hb hts kr_wsX0 hown hK hP 0 rfl rfl 5 (by decide) (hts _ kq_47) (fun _ h9 => h9) rfl dX0_meanEfficiency_1 ?_
  refine lv_if_ne (tgt := 9) hx hb dX0_meanEfficiency_4 (by decide) (fun c4 => ?_) (fun c4 => ?_)
  · have h0 : ¬ N = 0 := fun w => c4 (by rw [w]; rfl)
    refine lv_iconst (v := 0) hx hb dX0_meanEfficiency_9 (by decide) ?_
    refine lv_istore_n (lv' := [(1, .int 0), (0, .ref h)]) hx hb dX0_meanEfficiency_10 rfl hl (by decide) rfl (fun ls hl => ?_)
    refine lv_iconst (v := 0) hx hb dX0_meanEfficiency_11 (by decide) ?_
    refine lv_istore_n (lv' := [(2, .int 0), (1, .int 0), (0, .ref h)]) hx hb dX0_meanEfficiency_12 rfl hl (by decide) rfl (fun ls hl => ?_)
    refine kr_lp (nL := 3) (fun z : Nat => [(2, .int (nI z)), (1, .int (kr_sm A z)), (0, .ref h)]) (fun z => z ≤ N) (fun z => N - z) ?_ (0) (Nat.zero_le _) (lv_sub hl [0, 1, 2] rfl)
    clear hl
    intro z ls hI hl ih
    obtain ⟨i, rfl⟩ : ∃ y, y = z := ⟨_, rfl⟩
    have hl : lv_has ls 3 [(2, .int (nI i)), (1, .int (kr_sm A i)), (0, .ref h)] := hl
    obtain hi0 : i ≤ N := hI
    refine lv_iload_n hx hb dX0_meanEfficiency_13 rfl (lv_at hl 0 rfl) ?_
    refine lv_aload_n hx hb dX0_meanEfficiency_14 rfl (lv_at hl 2 rfl) ?_
    refine va_get (ci := 0) (v := .int (nI N)) (C := RX0) (T := TX0) (N := 10) hx hb hts kr_wsX0 hown hK hP 0 rfl rfl 5 (by decide) (hts _ kq_47) (fun _ h9 => h9) rfl dX0_meanEfficiency_15 ?_
    refine lv_icmp_ge (tgt := 36) hx hb dX0_meanEfficiency_18 (by decide) (fun c18 => ?_) (fun c18 => ?_)
    · have hi2 : i = N := by have := kr_ge (by omega) (by omega) c18; omega
      refine lv_iload_n hx hb dX0_meanEfficiency_36 rfl (lv_at hl 1 rfl) ?_
      refine lv_i2d hx hb dX0_meanEfficiency_37 ?_
      refine lv_aload_n hx hb dX0_meanEfficiency_38 rfl (lv_at hl 2 rfl) ?_
      refine va_get (ci := 0) (v := .int (nI N)) (C := RX0) (T := TX0) (N := 10) hx hb hts kr_wsX0 hown hK hP 0 rfl rfl 5 (by decide) (hts _ kq_47) (fun _ h9 => h9) rfl dX0_meanEfficiency_39 ?_
      refine lv_i2d hx hb dX0_meanEfficiency_42 ?_
      refine lv_ddiv hx hb dX0_meanEfficiency_43 (by have h9 := kr_m2_vf hN hwe; unfold kr_m2 at h9; rw [if_neg h0] at h9; rw [hi2]; exact h9) ?_
      exact kr_eD hx hb hr hlocks rfl (by rw [hi2]; exact (if_neg h0).symm) dX0_meanEfficiency_44
    · have hi : i < N := kr_lt (by omega) (by omega) c18
      refine lv_iload_n hx hb dX0_meanEfficiency_21 rfl (lv_at hl 1 rfl) ?_
      refine lv_aload_n hx hb dX0_meanEfficiency_22 rfl (lv_at hl 2 rfl) ?_
      refine va_get (ci := 0) (v := .ref (a 1)) (C := RX0) (T := TX0) (N := 10) hx hb hts kr_wsX0 hown hK hP 0 rfl rfl 1 (by decide) (hts _ kq_43) (fun _ h9 => h9) rfl dX0_meanEfficiency_23 ?_
      refine lv_iload_n hx hb dX0_meanEfficiency_26 rfl (lv_at hl 0 rfl) ?_
      refine kr_ald hx hb hK hP 2 0 rfl rfl i (by omega) (by decide) dX0_meanEfficiency_27 ?_
      refine lv_iadd hx hb dX0_meanEfficiency_28 ?_
      refine lv_istore_n (lv' := [(1, .int ((kr_sm A i) + (A 1 i))), (2, .int (nI i)), (0, .ref h)]) hx hb dX0_meanEfficiency_29 rfl hl (by decide) rfl (fun ls hl => ?_)
      refine lv_iinc (v := nI (i + 1)) (lv' := [(2, .int (nI (i + 1))), (1, .int ((kr_sm A i) + (A 1 i))), (0, .ref h)]) hx hb dX0_meanEfficiency_30 hl (k := 1) rfl (kr_inc _) (by decide) rfl (fun ls hl => ?_)
      refine lv_goto (tgt := 13) hx hb dX0_meanEfficiency_33 (by decide) ?_
      exact ih (i + 1) ls (show i + 1 ≤ N by omega) (by show N - (i + 1) < N - i; omega) (lv_sub hl [0, 1, 2] rfl)
  · have h0 : N = 0 := (nI_eq (a := N) (b := 0) (by omega) (by decide)).mp c4
    refine lv_dconst0 hx hb dX0_meanEfficiency_7 ?_
    exact kr_eD hx hb hr hlocks rfl (if_pos h0).symm dX0_meanEfficiency_8
end
section
theorem dL_below_0 : decode cL_below 0 = .ok (.iload_n 0, 1) := by decide +kernel
theorem dL_below_1 : decode cL_below 1 = .ok (.ldc 7, 2) := by decide +kernel
theorem dL_below_3 : decode cL_below 3 = .ok (.iand, 1) := by decide +kernel
theorem dL_below_4 : decode cL_below 4 = .ok (.iload_n 1, 1) := by decide +kernel
theorem dL_below_5 : decode cL_below 5 = .ok (.irem, 1) := by decide +kernel
theorem dL_below_6 : decode cL_below 6 = .ok (.ireturn, 1) := by decide +kernel
theorem dL_cell_0 : decode cL_cell 0 = .ok (.iload_n 1, 1) := by decide +kernel
theorem dL_cell_1 : decode cL_cell 1 = .ok (.aload_n 0, 1) := by decide +kernel
theorem dL_cell_2 : decode cL_cell 2 = .ok (.arraylength, 1) := by decide +kernel
theorem dL_cell_3 : decode cL_cell 3 = .ok (.if_icmp .ge 9, 3) := by decide +kernel
theorem dL_cell_6 : decode cL_cell 6 = .ok (.aload_n 0, 1) := by decide +kernel
theorem dL_cell_7 : decode cL_cell 7 = .ok (.iload_n 1, 1) := by decide +kernel
theorem dL_cell_8 : decode cL_cell 8 = .ok (.iaload, 1) := by decide +kernel
theorem dL_cell_9 : decode cL_cell 9 = .ok (.goto 9, 3) := by decide +kernel
theorem dL_cell_12 : decode cL_cell 12 = .ok (.ldc 8, 2) := by decide +kernel
theorem dL_cell_14 : decode cL_cell 14 = .ok (.iload_n 1, 1) := by decide +kernel
theorem dL_cell_15 : decode cL_cell 15 = .ok (.iconst 3, 1) := by decide +kernel
theorem dL_cell_16 : decode cL_cell 16 = .ok (.iadd, 1) := by decide +kernel
theorem dL_cell_17 : decode cL_cell 17 = .ok (.imul, 1) := by decide +kernel
theorem dL_cell_18 : decode cL_cell 18 = .ok (.ireturn, 1) := by decide +kernel
theorem dL_act_0 : decode cL_act 0 = .ok (.aload_n 1, 1) := by decide +kernel
theorem dL_act_1 : decode cL_act 1 = .ok (.getfield 9, 3) := by decide +kernel
theorem dL_act_4 : decode cL_act 4 = .ok (.arraylength, 1) := by decide +kernel
theorem dL_act_5 : decode cL_act 5 = .ok (.istore_n 3, 1) := by decide +kernel
theorem dL_act_6 : decode cL_act 6 = .ok (.aload_n 1, 1) := by decide +kernel
theorem dL_act_7 : decode cL_act 7 = .ok (.getfield 15, 3) := by decide +kernel
theorem dL_act_10 : decode cL_act 10 = .ok (.arraylength, 1) := by decide +kernel
theorem dL_act_11 : decode cL_act 11 = .ok (.ifCond .ne 7, 3) := by decide +kernel
theorem dL_act_14 : decode cL_act 14 = .ok (.iconst 0, 1) := by decide +kernel
theorem dL_act_15 : decode cL_act 15 = .ok (.goto 14, 3) := by decide +kernel
theorem dL_act_18 : decode cL_act 18 = .ok (.iload_n 2, 1) := by decide +kernel
theorem dL_act_19 : decode cL_act 19 = .ok (.iconst 3, 1) := by decide +kernel
theorem dL_act_20 : decode cL_act 20 = .ok (.ishr, 1) := by decide +kernel
theorem dL_act_21 : decode cL_act 21 = .ok (.aload_n 1, 1) := by decide +kernel
theorem dL_act_22 : decode cL_act 22 = .ok (.getfield 15, 3) := by decide +kernel
theorem dL_act_25 : decode cL_act 25 = .ok (.arraylength, 1) := by decide +kernel
theorem dL_act_26 : decode cL_act 26 = .ok (.invokestatic 18, 3) := by decide +kernel
theorem dL_act_29 : decode cL_act 29 = .ok (.istore 4, 2) := by decide +kernel
theorem dL_act_31 : decode cL_act 31 = .ok (.iload_n 3, 1) := by decide +kernel
theorem dL_act_32 : decode cL_act 32 = .ok (.ifCond .ne 7, 3) := by decide +kernel
theorem dL_act_35 : decode cL_act 35 = .ok (.iconst 0, 1) := by decide +kernel
theorem dL_act_36 : decode cL_act 36 = .ok (.goto 10, 3) := by decide +kernel
theorem dL_act_39 : decode cL_act 39 = .ok (.iload_n 2, 1) := by decide +kernel
theorem dL_act_40 : decode cL_act 40 = .ok (.iconst 5, 1) := by decide +kernel
theorem dL_act_41 : decode cL_act 41 = .ok (.ishr, 1) := by decide +kernel
theorem dL_act_42 : decode cL_act 42 = .ok (.iload_n 3, 1) := by decide +kernel
theorem dL_act_43 : decode cL_act 43 = .ok (.invokestatic 18, 3) := by decide +kernel
theorem dL_act_46 : decode cL_act 46 = .ok (.istore 5, 2) := by decide +kernel
theorem dL_act_48 : decode cL_act 48 = .ok (.iconst 1, 1) := by decide +kernel
theorem dL_act_49 : decode cL_act 49 = .ok (.iload_n 2, 1) := by decide +kernel
theorem dL_act_50 : decode cL_act 50 = .ok (.bipush 6, 2) := by decide +kernel
theorem dL_act_52 : decode cL_act 52 = .ok (.ishr, 1) := by decide +kernel
theorem dL_act_53 : decode cL_act 53 = .ok (.iload_n 2, 1) := by decide +kernel
theorem dL_act_54 : decode cL_act 54 = .ok (.iconst 4, 1) := by decide +kernel
theorem dL_act_55 : decode cL_act 55 = .ok (.ishr, 1) := by decide +kernel
theorem dL_act_56 : decode cL_act 56 = .ok (.iconst 2, 1) := by decide +kernel
theorem dL_act_57 : decode cL_act 57 = .ok (.invokestatic 18, 3) := by decide +kernel
theorem dL_act_60 : decode cL_act 60 = .ok (.ifCond .ne 9, 3) := by decide +kernel
theorem dL_act_63 : decode cL_act 63 = .ok (.sipush 999, 3) := by decide +kernel
theorem dL_act_66 : decode cL_act 66 = .ok (.goto 6, 3) := by decide +kernel
theorem dL_act_69 : decode cL_act 69 = .ok (.sipush 200, 3) := by decide +kernel
theorem dL_act_72 : decode cL_act 72 = .ok (.invokestatic 18, 3) := by decide +kernel
theorem dL_act_75 : decode cL_act 75 = .ok (.iadd, 1) := by decide +kernel
theorem dL_act_76 : decode cL_act 76 = .ok (.istore 6, 2) := by decide +kernel
theorem dL_act_78 : decode cL_act 78 = .ok (.iload_n 3, 1) := by decide +kernel
theorem dL_act_79 : decode cL_act 79 = .ok (.bipush 16, 2) := by decide +kernel
theorem dL_act_81 : decode cL_act 81 = .ok (.if_icmp .ge 7, 3) := by decide +kernel
theorem dL_act_84 : decode cL_act 84 = .ok (.iconst 1, 1) := by decide +kernel
theorem dL_act_85 : decode cL_act 85 = .ok (.goto 4, 3) := by decide +kernel
theorem dL_act_88 : decode cL_act 88 = .ok (.iconst 0, 1) := by decide +kernel
theorem dL_act_89 : decode cL_act 89 = .ok (.istore 7, 2) := by decide +kernel
theorem dL_act_91 : decode cL_act 91 = .ok (.iload_n 2, 1) := by decide +kernel
theorem dL_act_92 : decode cL_act 92 = .ok (.bipush 16, 2) := by decide +kernel
theorem dL_act_94 : decode cL_act 94 = .ok (.invokestatic 18, 3) := by decide +kernel
theorem dL_act_97 : decode cL_act 97 = .ok (.tableswitch 640 0 11 #[63, 63, 163, 163, 270, 270, 377, 377, 377, 377, 531, 531], 63) := by decide +kernel
theorem dL_act_160 : decode cL_act 160 = .ok (.iconst 5, 1) := by decide +kernel
theorem dL_act_161 : decode cL_act 161 = .ok (.newarray .int, 2) := by decide +kernel
theorem dL_act_163 : decode cL_act 163 = .ok (.dup, 1) := by decide +kernel
theorem dL_act_164 : decode cL_act 164 = .ok (.iconst 0, 1) := by decide +kernel
theorem dL_act_165 : decode cL_act 165 = .ok (.iload_n 2, 1) := by decide +kernel
theorem dL_act_166 : decode cL_act 166 = .ok (.iconst 4, 1) := by decide +kernel
theorem dL_act_167 : decode cL_act 167 = .ok (.ishr, 1) := by decide +kernel
theorem dL_act_168 : decode cL_act 168 = .ok (.iconst 2, 1) := by decide +kernel
theorem dL_act_169 : decode cL_act 169 = .ok (.invokestatic 18, 3) := by decide +kernel
theorem dL_act_172 : decode cL_act 172 = .ok (.iastore, 1) := by decide +kernel
theorem dL_act_173 : decode cL_act 173 = .ok (.dup, 1) := by decide +kernel
theorem dL_act_174 : decode cL_act 174 = .ok (.iconst 1, 1) := by decide +kernel
theorem dL_act_175 : decode cL_act 175 = .ok (.bipush 10, 2) := by decide +kernel
theorem dL_act_177 : decode cL_act 177 = .ok (.iload_n 2, 1) := by decide +kernel
theorem dL_act_178 : decode cL_act 178 = .ok (.iconst 5, 1) := by decide +kernel
theorem dL_act_179 : decode cL_act 179 = .ok (.ishr, 1) := by decide +kernel
theorem dL_act_180 : decode cL_act 180 = .ok (.bipush 91, 2) := by decide +kernel
theorem dL_act_182 : decode cL_act 182 = .ok (.invokestatic 18, 3) := by decide +kernel
theorem dL_act_185 : decode cL_act 185 = .ok (.iadd, 1) := by decide +kernel
theorem dL_act_186 : decode cL_act 186 = .ok (.iastore, 1) := by decide +kernel
theorem dL_act_187 : decode cL_act 187 = .ok (.dup, 1) := by decide +kernel
theorem dL_act_188 : decode cL_act 188 = .ok (.iconst 2, 1) := by decide +kernel
theorem dL_act_189 : decode cL_act 189 = .ok (.iconst 1, 1) := by decide +kernel
theorem dL_act_190 : decode cL_act 190 = .ok (.iload_n 2, 1) := by decide +kernel
theorem dL_act_191 : decode cL_act 191 = .ok (.bipush 7, 2) := by decide +kernel
theorem dL_act_193 : decode cL_act 193 = .ok (.ishr, 1) := by decide +kernel
theorem dL_act_194 : decode cL_act 194 = .ok (.bipush 9, 2) := by decide +kernel
theorem dL_act_196 : decode cL_act 196 = .ok (.invokestatic 18, 3) := by decide +kernel
theorem dL_act_199 : decode cL_act 199 = .ok (.iadd, 1) := by decide +kernel
theorem dL_act_200 : decode cL_act 200 = .ok (.iastore, 1) := by decide +kernel
theorem dL_act_201 : decode cL_act 201 = .ok (.dup, 1) := by decide +kernel
theorem dL_act_202 : decode cL_act 202 = .ok (.iconst 3, 1) := by decide +kernel
theorem dL_act_203 : decode cL_act 203 = .ok (.iconst 0, 1) := by decide +kernel
theorem dL_act_204 : decode cL_act 204 = .ok (.iastore, 1) := by decide +kernel
theorem dL_act_205 : decode cL_act 205 = .ok (.dup, 1) := by decide +kernel
theorem dL_act_206 : decode cL_act 206 = .ok (.iconst 4, 1) := by decide +kernel
theorem dL_act_207 : decode cL_act 207 = .ok (.iconst (-1), 1) := by decide +kernel
theorem dL_act_208 : decode cL_act 208 = .ok (.iastore, 1) := by decide +kernel
theorem dL_act_209 : decode cL_act 209 = .ok (.astore 8, 2) := by decide +kernel
theorem dL_act_211 : decode cL_act 211 = .ok (.iload 7, 2) := by decide +kernel
theorem dL_act_213 : decode cL_act 213 = .ok (.ifCond .eq 16, 3) := by decide +kernel
theorem dL_act_216 : decode cL_act 216 = .ok (.aload_n 1, 1) := by decide +kernel
theorem dL_act_217 : decode cL_act 217 = .ok (.aload_n 1, 1) := by decide +kernel
theorem dL_act_218 : decode cL_act 218 = .ok (.getfield 9, 3) := by decide +kernel
theorem dL_act_221 : decode cL_act 221 = .ok (.aload 8, 2) := by decide +kernel
theorem dL_act_223 : decode cL_act 223 = .ok (.invokestatic 24, 3) := by decide +kernel
theorem dL_act_226 : decode cL_act 226 = .ok (.putfield 9, 3) := by decide +kernel
theorem dL_act_229 : decode cL_act 229 = .ok (.aload_n 0, 1) := by decide +kernel
theorem dL_act_230 : decode cL_act 230 = .ok (.aload 8, 2) := by decide +kernel
theorem dL_act_232 : decode cL_act 232 = .ok (.iconst 0, 1) := by decide +kernel
theorem dL_act_233 : decode cL_act 233 = .ok (.iaload, 1) := by decide +kernel
theorem dL_act_234 : decode cL_act 234 = .ok (.aload 8, 2) := by decide +kernel
theorem dL_act_236 : decode cL_act 236 = .ok (.iconst 1, 1) := by decide +kernel
theorem dL_act_237 : decode cL_act 237 = .ok (.iaload, 1) := by decide +kernel
theorem dL_act_238 : decode cL_act 238 = .ok (.aload 8, 2) := by decide +kernel
theorem dL_act_240 : decode cL_act 240 = .ok (.iconst 2, 1) := by decide +kernel
theorem dL_act_241 : decode cL_act 241 = .ok (.iaload, 1) := by decide +kernel
theorem dL_act_242 : decode cL_act 242 = .ok (.invokevirtual 28, 3) := by decide +kernel
theorem dL_act_245 : decode cL_act 245 = .ok (.iload_n 3, 1) := by decide +kernel
theorem dL_act_246 : decode cL_act 246 = .ok (.if_icmp .ne 12, 3) := by decide +kernel
theorem dL_act_249 : decode cL_act 249 = .ok (.iload 7, 2) := by decide +kernel
theorem dL_act_251 : decode cL_act 251 = .ok (.ifCond .eq 7, 3) := by decide +kernel
theorem dL_act_254 : decode cL_act 254 = .ok (.iconst 1, 1) := by decide +kernel
theorem dL_act_255 : decode cL_act 255 = .ok (.goto 4, 3) := by decide +kernel
theorem dL_act_258 : decode cL_act 258 = .ok (.iconst 0, 1) := by decide +kernel
theorem dL_act_259 : decode cL_act 259 = .ok (.ireturn, 1) := by decide +kernel
theorem dL_act_260 : decode cL_act 260 = .ok (.iload_n 3, 1) := by decide +kernel
theorem dL_act_261 : decode cL_act 261 = .ok (.ifCond .ne 5, 3) := by decide +kernel
theorem dL_act_264 : decode cL_act 264 = .ok (.iconst 1, 1) := by decide +kernel
theorem dL_act_265 : decode cL_act 265 = .ok (.ireturn, 1) := by decide +kernel
theorem dL_act_266 : decode cL_act 266 = .ok (.iconst 1, 1) := by decide +kernel
theorem dL_act_267 : decode cL_act 267 = .ok (.istore 7, 2) := by decide +kernel
theorem dL_act_269 : decode cL_act 269 = .ok (.iload_n 2, 1) := by decide +kernel
theorem dL_act_270 : decode cL_act 270 = .ok (.bipush 8, 2) := by decide +kernel
theorem dL_act_272 : decode cL_act 272 = .ok (.ishr, 1) := by decide +kernel
theorem dL_act_273 : decode cL_act 273 = .ok (.iload 5, 2) := by decide +kernel
theorem dL_act_275 : decode cL_act 275 = .ok (.iconst 1, 1) := by decide +kernel
theorem dL_act_276 : decode cL_act 276 = .ok (.iadd, 1) := by decide +kernel
theorem dL_act_277 : decode cL_act 277 = .ok (.invokestatic 18, 3) := by decide +kernel
theorem dL_act_280 : decode cL_act 280 = .ok (.iconst 1, 1) := by decide +kernel
theorem dL_act_281 : decode cL_act 281 = .ok (.isub, 1) := by decide +kernel
theorem dL_act_282 : decode cL_act 282 = .ok (.istore 8, 2) := by decide +kernel
theorem dL_act_284 : decode cL_act 284 = .ok (.iload 8, 2) := by decide +kernel
theorem dL_act_286 : decode cL_act 286 = .ok (.ifCond .lt 27, 3) := by decide +kernel
theorem dL_act_289 : decode cL_act 289 = .ok (.aload_n 1, 1) := by decide +kernel
theorem dL_act_290 : decode cL_act 290 = .ok (.getfield 9, 3) := by decide +kernel
theorem dL_act_293 : decode cL_act 293 = .ok (.iload 8, 2) := by decide +kernel
theorem dL_act_295 : decode cL_act 295 = .ok (.aaload, 1) := by decide +kernel
theorem dL_act_296 : decode cL_act 296 = .ok (.iconst 0, 1) := by decide +kernel
theorem dL_act_297 : decode cL_act 297 = .ok (.iaload, 1) := by decide +kernel
theorem dL_act_298 : decode cL_act 298 = .ok (.aload_n 1, 1) := by decide +kernel
theorem dL_act_299 : decode cL_act 299 = .ok (.getfield 9, 3) := by decide +kernel
theorem dL_act_302 : decode cL_act 302 = .ok (.iload 5, 2) := by decide +kernel
theorem dL_act_304 : decode cL_act 304 = .ok (.aaload, 1) := by decide +kernel
theorem dL_act_305 : decode cL_act 305 = .ok (.iconst 0, 1) := by decide +kernel
theorem dL_act_306 : decode cL_act 306 = .ok (.iaload, 1) := by decide +kernel
theorem dL_act_307 : decode cL_act 307 = .ok (.if_icmp .eq 6, 3) := by decide +kernel
theorem dL_act_310 : decode cL_act 310 = .ok (.iconst (-1), 1) := by decide +kernel
theorem dL_act_311 : decode cL_act 311 = .ok (.istore 8, 2) := by decide +kernel
theorem dL_act_313 : decode cL_act 313 = .ok (.aload_n 1, 1) := by decide +kernel
theorem dL_act_314 : decode cL_act 314 = .ok (.getfield 9, 3) := by decide +kernel
theorem dL_act_317 : decode cL_act 317 = .ok (.iload 5, 2) := by decide +kernel
theorem dL_act_319 : decode cL_act 319 = .ok (.aaload, 1) := by decide +kernel
theorem dL_act_320 : decode cL_act 320 = .ok (.iconst 3, 1) := by decide +kernel
theorem dL_act_321 : decode cL_act 321 = .ok (.iaload, 1) := by decide +kernel
theorem dL_act_322 : decode cL_act 322 = .ok (.istore 9, 2) := by decide +kernel
theorem dL_act_324 : decode cL_act 324 = .ok (.aload_n 1, 1) := by decide +kernel
theorem dL_act_325 : decode cL_act 325 = .ok (.getfield 9, 3) := by decide +kernel
theorem dL_act_328 : decode cL_act 328 = .ok (.iload 5, 2) := by decide +kernel
theorem dL_act_330 : decode cL_act 330 = .ok (.aaload, 1) := by decide +kernel
theorem dL_act_331 : decode cL_act 331 = .ok (.iconst 3, 1) := by decide +kernel
theorem dL_act_332 : decode cL_act 332 = .ok (.iload 6, 2) := by decide +kernel
theorem dL_act_334 : decode cL_act 334 = .ok (.iastore, 1) := by decide +kernel
theorem dL_act_335 : decode cL_act 335 = .ok (.aload_n 1, 1) := by decide +kernel
theorem dL_act_336 : decode cL_act 336 = .ok (.getfield 9, 3) := by decide +kernel
theorem dL_act_339 : decode cL_act 339 = .ok (.iload 5, 2) := by decide +kernel
theorem dL_act_341 : decode cL_act 341 = .ok (.aaload, 1) := by decide +kernel
theorem dL_act_342 : decode cL_act 342 = .ok (.iconst 4, 1) := by decide +kernel
theorem dL_act_343 : decode cL_act 343 = .ok (.iload 8, 2) := by decide +kernel
theorem dL_act_345 : decode cL_act 345 = .ok (.iastore, 1) := by decide +kernel
theorem dL_act_346 : decode cL_act 346 = .ok (.aload_n 0, 1) := by decide +kernel
theorem dL_act_347 : decode cL_act 347 = .ok (.iload 5, 2) := by decide +kernel
theorem dL_act_349 : decode cL_act 349 = .ok (.iload 6, 2) := by decide +kernel
theorem dL_act_351 : decode cL_act 351 = .ok (.iload 8, 2) := by decide +kernel
theorem dL_act_353 : decode cL_act 353 = .ok (.invokevirtual 34, 3) := by decide +kernel
theorem dL_act_356 : decode cL_act 356 = .ok (.iload 9, 2) := by decide +kernel
theorem dL_act_358 : decode cL_act 358 = .ok (.if_icmp .ne 7, 3) := by decide +kernel
theorem dL_act_361 : decode cL_act 361 = .ok (.iconst 1, 1) := by decide +kernel
theorem dL_act_362 : decode cL_act 362 = .ok (.goto 4, 3) := by decide +kernel
theorem dL_act_365 : decode cL_act 365 = .ok (.iconst 0, 1) := by decide +kernel
theorem dL_act_366 : decode cL_act 366 = .ok (.ireturn, 1) := by decide +kernel
theorem dL_act_367 : decode cL_act 367 = .ok (.iload_n 3, 1) := by decide +kernel
theorem dL_act_368 : decode cL_act 368 = .ok (.ifCond .eq 15, 3) := by decide +kernel
theorem dL_act_371 : decode cL_act 371 = .ok (.aload_n 1, 1) := by decide +kernel
theorem dL_act_372 : decode cL_act 372 = .ok (.getfield 9, 3) := by decide +kernel
theorem dL_act_375 : decode cL_act 375 = .ok (.iload 5, 2) := by decide +kernel
theorem dL_act_377 : decode cL_act 377 = .ok (.aaload, 1) := by decide +kernel
theorem dL_act_378 : decode cL_act 378 = .ok (.iconst 0, 1) := by decide +kernel
theorem dL_act_379 : decode cL_act 379 = .ok (.iaload, 1) := by decide +kernel
theorem dL_act_380 : decode cL_act 380 = .ok (.ifCond .ne 5, 3) := by decide +kernel
theorem dL_act_383 : decode cL_act 383 = .ok (.iconst 1, 1) := by decide +kernel
theorem dL_act_384 : decode cL_act 384 = .ok (.ireturn, 1) := by decide +kernel
theorem dL_act_385 : decode cL_act 385 = .ok (.aload_n 1, 1) := by decide +kernel
theorem dL_act_386 : decode cL_act 386 = .ok (.getfield 15, 3) := by decide +kernel
theorem dL_act_389 : decode cL_act 389 = .ok (.arraylength, 1) := by decide +kernel
theorem dL_act_390 : decode cL_act 390 = .ok (.bipush 6, 2) := by decide +kernel
theorem dL_act_392 : decode cL_act 392 = .ok (.if_icmp .ge 7, 3) := by decide +kernel
theorem dL_act_395 : decode cL_act 395 = .ok (.iconst 1, 1) := by decide +kernel
theorem dL_act_396 : decode cL_act 396 = .ok (.goto 4, 3) := by decide +kernel
theorem dL_act_399 : decode cL_act 399 = .ok (.iconst 0, 1) := by decide +kernel
theorem dL_act_400 : decode cL_act 400 = .ok (.istore 7, 2) := by decide +kernel
theorem dL_act_402 : decode cL_act 402 = .ok (.iload 7, 2) := by decide +kernel
theorem dL_act_404 : decode cL_act 404 = .ok (.ifCond .eq 41, 3) := by decide +kernel
theorem dL_act_407 : decode cL_act 407 = .ok (.aload_n 1, 1) := by decide +kernel
theorem dL_act_408 : decode cL_act 408 = .ok (.aload_n 1, 1) := by decide +kernel
theorem dL_act_409 : decode cL_act 409 = .ok (.getfield 15, 3) := by decide +kernel
theorem dL_act_412 : decode cL_act 412 = .ok (.iconst 1, 1) := by decide +kernel
theorem dL_act_413 : decode cL_act 413 = .ok (.newarray .int, 2) := by decide +kernel
theorem dL_act_415 : decode cL_act 415 = .ok (.dup, 1) := by decide +kernel
theorem dL_act_416 : decode cL_act 416 = .ok (.iconst 0, 1) := by decide +kernel
theorem dL_act_417 : decode cL_act 417 = .ok (.iload 6, 2) := by decide +kernel
theorem dL_act_419 : decode cL_act 419 = .ok (.iastore, 1) := by decide +kernel
theorem dL_act_420 : decode cL_act 420 = .ok (.invokestatic 24, 3) := by decide +kernel
theorem dL_act_423 : decode cL_act 423 = .ok (.putfield 15, 3) := by decide +kernel
theorem dL_act_426 : decode cL_act 426 = .ok (.aload_n 1, 1) := by decide +kernel
theorem dL_act_427 : decode cL_act 427 = .ok (.aload_n 1, 1) := by decide +kernel
theorem dL_act_428 : decode cL_act 428 = .ok (.getfield 37, 3) := by decide +kernel
theorem dL_act_431 : decode cL_act 431 = .ok (.iconst 1, 1) := by decide +kernel
theorem dL_act_432 : decode cL_act 432 = .ok (.newarray .int, 2) := by decide +kernel
theorem dL_act_434 : decode cL_act 434 = .ok (.dup, 1) := by decide +kernel
theorem dL_act_435 : decode cL_act 435 = .ok (.iconst 0, 1) := by decide +kernel
theorem dL_act_436 : decode cL_act 436 = .ok (.iload 5, 2) := by decide +kernel
theorem dL_act_438 : decode cL_act 438 = .ok (.iastore, 1) := by decide +kernel
theorem dL_act_439 : decode cL_act 439 = .ok (.invokestatic 24, 3) := by decide +kernel
theorem dL_act_442 : decode cL_act 442 = .ok (.putfield 37, 3) := by decide +kernel
theorem dL_act_445 : decode cL_act 445 = .ok (.aload_n 0, 1) := by decide +kernel
theorem dL_act_446 : decode cL_act 446 = .ok (.iload 5, 2) := by decide +kernel
theorem dL_act_448 : decode cL_act 448 = .ok (.iload 6, 2) := by decide +kernel
theorem dL_act_450 : decode cL_act 450 = .ok (.invokevirtual 40, 3) := by decide +kernel
theorem dL_act_453 : decode cL_act 453 = .ok (.aload_n 1, 1) := by decide +kernel
theorem dL_act_454 : decode cL_act 454 = .ok (.getfield 15, 3) := by decide +kernel
theorem dL_act_457 : decode cL_act 457 = .ok (.arraylength, 1) := by decide +kernel
theorem dL_act_458 : decode cL_act 458 = .ok (.iconst 1, 1) := by decide +kernel
theorem dL_act_459 : decode cL_act 459 = .ok (.isub, 1) := by decide +kernel
theorem dL_act_460 : decode cL_act 460 = .ok (.if_icmp .ne 12, 3) := by decide +kernel
theorem dL_act_463 : decode cL_act 463 = .ok (.iload 7, 2) := by decide +kernel
theorem dL_act_465 : decode cL_act 465 = .ok (.ifCond .eq 7, 3) := by decide +kernel
theorem dL_act_468 : decode cL_act 468 = .ok (.iconst 1, 1) := by decide +kernel
theorem dL_act_469 : decode cL_act 469 = .ok (.goto 4, 3) := by decide +kernel
theorem dL_act_472 : decode cL_act 472 = .ok (.iconst 0, 1) := by decide +kernel
theorem dL_act_473 : decode cL_act 473 = .ok (.ireturn, 1) := by decide +kernel
theorem dL_act_474 : decode cL_act 474 = .ok (.iload_n 3, 1) := by decide +kernel
theorem dL_act_475 : decode cL_act 475 = .ok (.ifCond .eq 24, 3) := by decide +kernel
theorem dL_act_478 : decode cL_act 478 = .ok (.aload_n 1, 1) := by decide +kernel
theorem dL_act_479 : decode cL_act 479 = .ok (.getfield 15, 3) := by decide +kernel
theorem dL_act_482 : decode cL_act 482 = .ok (.arraylength, 1) := by decide +kernel
theorem dL_act_483 : decode cL_act 483 = .ok (.ifCond .eq 16, 3) := by decide +kernel
theorem dL_act_486 : decode cL_act 486 = .ok (.aload_n 1, 1) := by decide +kernel
theorem dL_act_487 : decode cL_act 487 = .ok (.getfield 9, 3) := by decide +kernel
theorem dL_act_490 : decode cL_act 490 = .ok (.iload 5, 2) := by decide +kernel
theorem dL_act_492 : decode cL_act 492 = .ok (.aaload, 1) := by decide +kernel
theorem dL_act_493 : decode cL_act 493 = .ok (.iconst 0, 1) := by decide +kernel
theorem dL_act_494 : decode cL_act 494 = .ok (.iaload, 1) := by decide +kernel
theorem dL_act_495 : decode cL_act 495 = .ok (.iconst 1, 1) := by decide +kernel
theorem dL_act_496 : decode cL_act 496 = .ok (.if_icmp .ne 5, 3) := by decide +kernel
theorem dL_act_499 : decode cL_act 499 = .ok (.iconst 1, 1) := by decide +kernel
theorem dL_act_500 : decode cL_act 500 = .ok (.ireturn, 1) := by decide +kernel
theorem dL_act_501 : decode cL_act 501 = .ok (.aload_n 1, 1) := by decide +kernel
theorem dL_act_502 : decode cL_act 502 = .ok (.getfield 15, 3) := by decide +kernel
theorem dL_act_505 : decode cL_act 505 = .ok (.iload 4, 2) := by decide +kernel
theorem dL_act_507 : decode cL_act 507 = .ok (.aaload, 1) := by decide +kernel
theorem dL_act_508 : decode cL_act 508 = .ok (.arraylength, 1) := by decide +kernel
theorem dL_act_509 : decode cL_act 509 = .ok (.istore 8, 2) := by decide +kernel
theorem dL_act_511 : decode cL_act 511 = .ok (.iload 8, 2) := by decide +kernel
theorem dL_act_513 : decode cL_act 513 = .ok (.ifCond .le 13, 3) := by decide +kernel
theorem dL_act_516 : decode cL_act 516 = .ok (.iload 8, 2) := by decide +kernel
theorem dL_act_518 : decode cL_act 518 = .ok (.iconst 5, 1) := by decide +kernel
theorem dL_act_519 : decode cL_act 519 = .ok (.if_icmp .ge 7, 3) := by decide +kernel
theorem dL_act_522 : decode cL_act 522 = .ok (.iconst 1, 1) := by decide +kernel
theorem dL_act_523 : decode cL_act 523 = .ok (.goto 4, 3) := by decide +kernel
theorem dL_act_526 : decode cL_act 526 = .ok (.iconst 0, 1) := by decide +kernel
theorem dL_act_527 : decode cL_act 527 = .ok (.istore 7, 2) := by decide +kernel
theorem dL_act_529 : decode cL_act 529 = .ok (.iload 7, 2) := by decide +kernel
theorem dL_act_531 : decode cL_act 531 = .ok (.ifCond .eq 69, 3) := by decide +kernel
theorem dL_act_534 : decode cL_act 534 = .ok (.aload_n 1, 1) := by decide +kernel
theorem dL_act_535 : decode cL_act 535 = .ok (.getfield 15, 3) := by decide +kernel
theorem dL_act_538 : decode cL_act 538 = .ok (.iload 4, 2) := by decide +kernel
theorem dL_act_540 : decode cL_act 540 = .ok (.aload_n 1, 1) := by decide +kernel
theorem dL_act_541 : decode cL_act 541 = .ok (.getfield 15, 3) := by decide +kernel
theorem dL_act_544 : decode cL_act 544 = .ok (.iload 4, 2) := by decide +kernel
theorem dL_act_546 : decode cL_act 546 = .ok (.aaload, 1) := by decide +kernel
theorem dL_act_547 : decode cL_act 547 = .ok (.iload 8, 2) := by decide +kernel
theorem dL_act_549 : decode cL_act 549 = .ok (.iconst 1, 1) := by decide +kernel
theorem dL_act_550 : decode cL_act 550 = .ok (.iadd, 1) := by decide +kernel
theorem dL_act_551 : decode cL_act 551 = .ok (.invokestatic 43, 3) := by decide +kernel
theorem dL_act_554 : decode cL_act 554 = .ok (.aastore, 1) := by decide +kernel
theorem dL_act_555 : decode cL_act 555 = .ok (.aload_n 1, 1) := by decide +kernel
theorem dL_act_556 : decode cL_act 556 = .ok (.getfield 37, 3) := by decide +kernel
theorem dL_act_559 : decode cL_act 559 = .ok (.iload 4, 2) := by decide +kernel
theorem dL_act_561 : decode cL_act 561 = .ok (.aload_n 1, 1) := by decide +kernel
theorem dL_act_562 : decode cL_act 562 = .ok (.getfield 37, 3) := by decide +kernel
theorem dL_act_565 : decode cL_act 565 = .ok (.iload 4, 2) := by decide +kernel
theorem dL_act_567 : decode cL_act 567 = .ok (.aaload, 1) := by decide +kernel
theorem dL_act_568 : decode cL_act 568 = .ok (.iload 8, 2) := by decide +kernel
theorem dL_act_570 : decode cL_act 570 = .ok (.iconst 1, 1) := by decide +kernel
theorem dL_act_571 : decode cL_act 571 = .ok (.iadd, 1) := by decide +kernel
theorem dL_act_572 : decode cL_act 572 = .ok (.invokestatic 43, 3) := by decide +kernel
theorem dL_act_575 : decode cL_act 575 = .ok (.aastore, 1) := by decide +kernel
theorem dL_act_576 : decode cL_act 576 = .ok (.aload_n 1, 1) := by decide +kernel
theorem dL_act_577 : decode cL_act 577 = .ok (.getfield 15, 3) := by decide +kernel
theorem dL_act_580 : decode cL_act 580 = .ok (.iload 4, 2) := by decide +kernel
theorem dL_act_582 : decode cL_act 582 = .ok (.aaload, 1) := by decide +kernel
theorem dL_act_583 : decode cL_act 583 = .ok (.iload 8, 2) := by decide +kernel
theorem dL_act_585 : decode cL_act 585 = .ok (.iload 6, 2) := by decide +kernel
theorem dL_act_587 : decode cL_act 587 = .ok (.iastore, 1) := by decide +kernel
theorem dL_act_588 : decode cL_act 588 = .ok (.aload_n 1, 1) := by decide +kernel
theorem dL_act_589 : decode cL_act 589 = .ok (.getfield 37, 3) := by decide +kernel
theorem dL_act_592 : decode cL_act 592 = .ok (.iload 4, 2) := by decide +kernel
theorem dL_act_594 : decode cL_act 594 = .ok (.aaload, 1) := by decide +kernel
theorem dL_act_595 : decode cL_act 595 = .ok (.iload 8, 2) := by decide +kernel
theorem dL_act_597 : decode cL_act 597 = .ok (.iload 5, 2) := by decide +kernel
theorem dL_act_599 : decode cL_act 599 = .ok (.iastore, 1) := by decide +kernel
theorem dL_act_600 : decode cL_act 600 = .ok (.aload_n 0, 1) := by decide +kernel
theorem dL_act_601 : decode cL_act 601 = .ok (.iload 4, 2) := by decide +kernel
theorem dL_act_603 : decode cL_act 603 = .ok (.iload 5, 2) := by decide +kernel
theorem dL_act_605 : decode cL_act 605 = .ok (.iload 6, 2) := by decide +kernel
theorem dL_act_607 : decode cL_act 607 = .ok (.invokevirtual 47, 3) := by decide +kernel
theorem dL_act_610 : decode cL_act 610 = .ok (.iload 8, 2) := by decide +kernel
theorem dL_act_612 : decode cL_act 612 = .ok (.iconst 1, 1) := by decide +kernel
theorem dL_act_613 : decode cL_act 613 = .ok (.iadd, 1) := by decide +kernel
theorem dL_act_614 : decode cL_act 614 = .ok (.if_icmp .ne 12, 3) := by decide +kernel
theorem dL_act_617 : decode cL_act 617 = .ok (.iload 7, 2) := by decide +kernel
theorem dL_act_619 : decode cL_act 619 = .ok (.ifCond .eq 7, 3) := by decide +kernel
theorem dL_act_622 : decode cL_act 622 = .ok (.iconst 1, 1) := by decide +kernel
theorem dL_act_623 : decode cL_act 623 = .ok (.goto 4, 3) := by decide +kernel
theorem dL_act_626 : decode cL_act 626 = .ok (.iconst 0, 1) := by decide +kernel
theorem dL_act_627 : decode cL_act 627 = .ok (.ireturn, 1) := by decide +kernel
theorem dL_act_628 : decode cL_act 628 = .ok (.aload_n 1, 1) := by decide +kernel
theorem dL_act_629 : decode cL_act 629 = .ok (.getfield 15, 3) := by decide +kernel
theorem dL_act_632 : decode cL_act 632 = .ok (.arraylength, 1) := by decide +kernel
theorem dL_act_633 : decode cL_act 633 = .ok (.ifCond .eq 14, 3) := by decide +kernel
theorem dL_act_636 : decode cL_act 636 = .ok (.aload_n 1, 1) := by decide +kernel
theorem dL_act_637 : decode cL_act 637 = .ok (.getfield 15, 3) := by decide +kernel
theorem dL_act_640 : decode cL_act 640 = .ok (.iload 4, 2) := by decide +kernel
theorem dL_act_642 : decode cL_act 642 = .ok (.aaload, 1) := by decide +kernel
theorem dL_act_643 : decode cL_act 643 = .ok (.arraylength, 1) := by decide +kernel
theorem dL_act_644 : decode cL_act 644 = .ok (.ifCond .ne 5, 3) := by decide +kernel
theorem dL_act_647 : decode cL_act 647 = .ok (.iconst 1, 1) := by decide +kernel
theorem dL_act_648 : decode cL_act 648 = .ok (.ireturn, 1) := by decide +kernel
theorem dL_act_649 : decode cL_act 649 = .ok (.iconst 1, 1) := by decide +kernel
theorem dL_act_650 : decode cL_act 650 = .ok (.istore 7, 2) := by decide +kernel
theorem dL_act_652 : decode cL_act 652 = .ok (.iload_n 2, 1) := by decide +kernel
theorem dL_act_653 : decode cL_act 653 = .ok (.iconst 4, 1) := by decide +kernel
theorem dL_act_654 : decode cL_act 654 = .ok (.ishr, 1) := by decide +kernel
theorem dL_act_655 : decode cL_act 655 = .ok (.aload_n 1, 1) := by decide +kernel
theorem dL_act_656 : decode cL_act 656 = .ok (.getfield 15, 3) := by decide +kernel
theorem dL_act_659 : decode cL_act 659 = .ok (.iload 4, 2) := by decide +kernel
theorem dL_act_661 : decode cL_act 661 = .ok (.aaload, 1) := by decide +kernel
theorem dL_act_662 : decode cL_act 662 = .ok (.arraylength, 1) := by decide +kernel
theorem dL_act_663 : decode cL_act 663 = .ok (.invokestatic 18, 3) := by decide +kernel
theorem dL_act_666 : decode cL_act 666 = .ok (.istore 8, 2) := by decide +kernel
theorem dL_act_668 : decode cL_act 668 = .ok (.aload_n 1, 1) := by decide +kernel
theorem dL_act_669 : decode cL_act 669 = .ok (.getfield 9, 3) := by decide +kernel
theorem dL_act_672 : decode cL_act 672 = .ok (.iload 5, 2) := by decide +kernel
theorem dL_act_674 : decode cL_act 674 = .ok (.aaload, 1) := by decide +kernel
theorem dL_act_675 : decode cL_act 675 = .ok (.iconst 0, 1) := by decide +kernel
theorem dL_act_676 : decode cL_act 676 = .ok (.iaload, 1) := by decide +kernel
theorem dL_act_677 : decode cL_act 677 = .ok (.iload 8, 2) := by decide +kernel
theorem dL_act_679 : decode cL_act 679 = .ok (.ifCond .ne 7, 3) := by decide +kernel
theorem dL_act_682 : decode cL_act 682 = .ok (.iconst 1, 1) := by decide +kernel
theorem dL_act_683 : decode cL_act 683 = .ok (.goto 4, 3) := by decide +kernel
theorem dL_act_686 : decode cL_act 686 = .ok (.iconst 0, 1) := by decide +kernel
theorem dL_act_687 : decode cL_act 687 = .ok (.if_icmp .eq 5, 3) := by decide +kernel
theorem dL_act_690 : decode cL_act 690 = .ok (.iconst 1, 1) := by decide +kernel
theorem dL_act_691 : decode cL_act 691 = .ok (.ireturn, 1) := by decide +kernel
theorem dL_act_692 : decode cL_act 692 = .ok (.aload_n 1, 1) := by decide +kernel
theorem dL_act_693 : decode cL_act 693 = .ok (.getfield 37, 3) := by decide +kernel
theorem dL_act_696 : decode cL_act 696 = .ok (.iload 4, 2) := by decide +kernel
theorem dL_act_698 : decode cL_act 698 = .ok (.aaload, 1) := by decide +kernel
theorem dL_act_699 : decode cL_act 699 = .ok (.iload 8, 2) := by decide +kernel
theorem dL_act_701 : decode cL_act 701 = .ok (.iaload, 1) := by decide +kernel
theorem dL_act_702 : decode cL_act 702 = .ok (.istore 9, 2) := by decide +kernel
theorem dL_act_704 : decode cL_act 704 = .ok (.aload_n 1, 1) := by decide +kernel
theorem dL_act_705 : decode cL_act 705 = .ok (.getfield 37, 3) := by decide +kernel
theorem dL_act_708 : decode cL_act 708 = .ok (.iload 4, 2) := by decide +kernel
theorem dL_act_710 : decode cL_act 710 = .ok (.aaload, 1) := by decide +kernel
theorem dL_act_711 : decode cL_act 711 = .ok (.iload 8, 2) := by decide +kernel
theorem dL_act_713 : decode cL_act 713 = .ok (.iload 5, 2) := by decide +kernel
theorem dL_act_715 : decode cL_act 715 = .ok (.iastore, 1) := by decide +kernel
theorem dL_act_716 : decode cL_act 716 = .ok (.aload_n 0, 1) := by decide +kernel
theorem dL_act_717 : decode cL_act 717 = .ok (.iload 4, 2) := by decide +kernel
theorem dL_act_719 : decode cL_act 719 = .ok (.iload 8, 2) := by decide +kernel
theorem dL_act_721 : decode cL_act 721 = .ok (.iload 5, 2) := by decide +kernel
theorem dL_act_723 : decode cL_act 723 = .ok (.invokevirtual 50, 3) := by decide +kernel
theorem dL_act_726 : decode cL_act 726 = .ok (.iload 9, 2) := by decide +kernel
theorem dL_act_728 : decode cL_act 728 = .ok (.if_icmp .ne 7, 3) := by decide +kernel
theorem dL_act_731 : decode cL_act 731 = .ok (.iconst 1, 1) := by decide +kernel
theorem dL_act_732 : decode cL_act 732 = .ok (.goto 4, 3) := by decide +kernel
theorem dL_act_735 : decode cL_act 735 = .ok (.iconst 0, 1) := by decide +kernel
theorem dL_act_736 : decode cL_act 736 = .ok (.ireturn, 1) := by decide +kernel
theorem dL_act_737 : decode cL_act 737 = .ok (.aload_n 1, 1) := by decide +kernel
theorem dL_act_738 : decode cL_act 738 = .ok (.getfield 15, 3) := by decide +kernel
theorem dL_act_741 : decode cL_act 741 = .ok (.arraylength, 1) := by decide +kernel
theorem dL_act_742 : decode cL_act 742 = .ok (.ifCond .ne 5, 3) := by decide +kernel
theorem dL_act_745 : decode cL_act 745 = .ok (.iconst 1, 1) := by decide +kernel
theorem dL_act_746 : decode cL_act 746 = .ok (.ireturn, 1) := by decide +kernel
theorem dL_act_747 : decode cL_act 747 = .ok (.aload_n 1, 1) := by decide +kernel
theorem dL_act_748 : decode cL_act 748 = .ok (.getfield 15, 3) := by decide +kernel
theorem dL_act_751 : decode cL_act 751 = .ok (.iload 4, 2) := by decide +kernel
theorem dL_act_753 : decode cL_act 753 = .ok (.aaload, 1) := by decide +kernel
theorem dL_act_754 : decode cL_act 754 = .ok (.arraylength, 1) := by decide +kernel
theorem dL_act_755 : decode cL_act 755 = .ok (.ifCond .le 7, 3) := by decide +kernel
theorem dL_act_758 : decode cL_act 758 = .ok (.iconst 1, 1) := by decide +kernel
theorem dL_act_759 : decode cL_act 759 = .ok (.goto 4, 3) := by decide +kernel
theorem dL_act_762 : decode cL_act 762 = .ok (.iconst 0, 1) := by decide +kernel
theorem dL_act_763 : decode cL_act 763 = .ok (.istore 7, 2) := by decide +kernel
theorem dL_act_765 : decode cL_act 765 = .ok (.iconst 1, 1) := by decide +kernel
theorem dL_act_766 : decode cL_act 766 = .ok (.iload 6, 2) := by decide +kernel
theorem dL_act_768 : decode cL_act 768 = .ok (.iconst 1, 1) := by decide +kernel
theorem dL_act_769 : decode cL_act 769 = .ok (.isub, 1) := by decide +kernel
theorem dL_act_770 : decode cL_act 770 = .ok (.iconst 1, 1) := by decide +kernel
theorem dL_act_771 : decode cL_act 771 = .ok (.iload_n 2, 1) := by decide +kernel
theorem dL_act_772 : decode cL_act 772 = .ok (.bipush 9, 2) := by decide +kernel
theorem dL_act_774 : decode cL_act 774 = .ok (.ishr, 1) := by decide +kernel
theorem dL_act_775 : decode cL_act 775 = .ok (.bipush 8, 2) := by decide +kernel
theorem dL_act_777 : decode cL_act 777 = .ok (.invokestatic 18, 3) := by decide +kernel
theorem dL_act_780 : decode cL_act 780 = .ok (.iadd, 1) := by decide +kernel
theorem dL_act_781 : decode cL_act 781 = .ok (.idiv, 1) := by decide +kernel
theorem dL_act_782 : decode cL_act 782 = .ok (.iadd, 1) := by decide +kernel
theorem dL_act_783 : decode cL_act 783 = .ok (.istore 8, 2) := by decide +kernel
theorem dL_act_785 : decode cL_act 785 = .ok (.iload 7, 2) := by decide +kernel
theorem dL_act_787 : decode cL_act 787 = .ok (.ifCond .eq 14, 3) := by decide +kernel
theorem dL_act_790 : decode cL_act 790 = .ok (.aload_n 1, 1) := by decide +kernel
theorem dL_act_791 : decode cL_act 791 = .ok (.iload 4, 2) := by decide +kernel
theorem dL_act_793 : decode cL_act 793 = .ok (.iload 8, 2) := by decide +kernel
theorem dL_act_795 : decode cL_act 795 = .ok (.invokevirtual 53, 3) := by decide +kernel
theorem dL_act_798 : decode cL_act 798 = .ok (.goto 5, 3) := by decide +kernel
theorem dL_act_801 : decode cL_act 801 = .ok (.bipush (-2), 2) := by decide +kernel
theorem dL_act_803 : decode cL_act 803 = .ok (.istore 9, 2) := by decide +kernel
theorem dL_act_805 : decode cL_act 805 = .ok (.iload 7, 2) := by decide +kernel
theorem dL_act_807 : decode cL_act 807 = .ok (.ifCond .eq 11, 3) := by decide +kernel
theorem dL_act_810 : decode cL_act 810 = .ok (.aload_n 1, 1) := by decide +kernel
theorem dL_act_811 : decode cL_act 811 = .ok (.iload 4, 2) := by decide +kernel
theorem dL_act_813 : decode cL_act 813 = .ok (.iload 8, 2) := by decide +kernel
theorem dL_act_815 : decode cL_act 815 = .ok (.invokevirtual 56, 3) := by decide +kernel
theorem dL_act_818 : decode cL_act 818 = .ok (.aload_n 0, 1) := by decide +kernel
theorem dL_act_819 : decode cL_act 819 = .ok (.iload 4, 2) := by decide +kernel
theorem dL_act_821 : decode cL_act 821 = .ok (.iload 8, 2) := by decide +kernel
theorem dL_act_823 : decode cL_act 823 = .ok (.invokevirtual 60, 3) := by decide +kernel
theorem dL_act_826 : decode cL_act 826 = .ok (.iload 9, 2) := by decide +kernel
theorem dL_act_828 : decode cL_act 828 = .ok (.if_icmp .ne 12, 3) := by decide +kernel
theorem dL_act_831 : decode cL_act 831 = .ok (.iload 7, 2) := by decide +kernel
theorem dL_act_833 : decode cL_act 833 = .ok (.ifCond .eq 7, 3) := by decide +kernel
theorem dL_act_836 : decode cL_act 836 = .ok (.iconst 1, 1) := by decide +kernel
theorem dL_act_837 : decode cL_act 837 = .ok (.goto 4, 3) := by decide +kernel
theorem dL_act_840 : decode cL_act 840 = .ok (.iconst 0, 1) := by decide +kernel
theorem dL_act_841 : decode cL_act 841 = .ok (.ireturn, 1) := by decide +kernel
theorem dL_act_842 : decode cL_act 842 = .ok (.astore 8, 2) := by decide +kernel
theorem dL_act_844 : decode cL_act 844 = .ok (.iload 7, 2) := by decide +kernel
theorem dL_act_846 : decode cL_act 846 = .ok (.ifCond .ne 7, 3) := by decide +kernel
theorem dL_act_849 : decode cL_act 849 = .ok (.iconst 1, 1) := by decide +kernel
theorem dL_act_850 : decode cL_act 850 = .ok (.goto 4, 3) := by decide +kernel
theorem dL_act_853 : decode cL_act 853 = .ok (.iconst 0, 1) := by decide +kernel
theorem dL_act_854 : decode cL_act 854 = .ok (.ireturn, 1) := by decide +kernel
theorem dL_build_0 : decode cL_build 0 = .ok (.new 10, 3) := by decide +kernel
theorem dL_build_3 : decode cL_build 3 = .ok (.dup, 1) := by decide +kernel
theorem dL_build_4 : decode cL_build 4 = .ok (.invokespecial 64, 3) := by decide +kernel
theorem dL_build_7 : decode cL_build 7 = .ok (.astore_n 2, 1) := by decide +kernel
theorem dL_build_8 : decode cL_build 8 = .ok (.iconst 3, 1) := by decide +kernel
theorem dL_build_9 : decode cL_build 9 = .ok (.aload_n 1, 1) := by decide +kernel
theorem dL_build_10 : decode cL_build 10 = .ok (.iconst 0, 1) := by decide +kernel
theorem dL_build_11 : decode cL_build 11 = .ok (.invokestatic 65, 3) := by decide +kernel
theorem dL_build_14 : decode cL_build 14 = .ok (.bipush 12, 2) := by decide +kernel
theorem dL_build_16 : decode cL_build 16 = .ok (.invokestatic 18, 3) := by decide +kernel
theorem dL_build_19 : decode cL_build 19 = .ok (.iadd, 1) := by decide +kernel
theorem dL_build_20 : decode cL_build 20 = .ok (.istore_n 3, 1) := by decide +kernel
theorem dL_build_21 : decode cL_build 21 = .ok (.iconst 0, 1) := by decide +kernel
theorem dL_build_22 : decode cL_build 22 = .ok (.istore 4, 2) := by decide +kernel
theorem dL_build_24 : decode cL_build 24 = .ok (.iload 4, 2) := by decide +kernel
theorem dL_build_26 : decode cL_build 26 = .ok (.iload_n 3, 1) := by decide +kernel
theorem dL_build_27 : decode cL_build 27 = .ok (.if_icmp .ge 212, 3) := by decide +kernel
theorem dL_build_30 : decode cL_build 30 = .ok (.aload_n 1, 1) := by decide +kernel
theorem dL_build_31 : decode cL_build 31 = .ok (.iconst 1, 1) := by decide +kernel
theorem dL_build_32 : decode cL_build 32 = .ok (.iload 4, 2) := by decide +kernel
theorem dL_build_34 : decode cL_build 34 = .ok (.iadd, 1) := by decide +kernel
theorem dL_build_35 : decode cL_build 35 = .ok (.invokestatic 65, 3) := by decide +kernel
theorem dL_build_38 : decode cL_build 38 = .ok (.iconst 1, 1) := by decide +kernel
theorem dL_build_39 : decode cL_build 39 = .ok (.ishr, 1) := by decide +kernel
theorem dL_build_40 : decode cL_build 40 = .ok (.istore 5, 2) := by decide +kernel
theorem dL_build_42 : decode cL_build 42 = .ok (.iload 4, 2) := by decide +kernel
theorem dL_build_44 : decode cL_build 44 = .ok (.iconst 2, 1) := by decide +kernel
theorem dL_build_45 : decode cL_build 45 = .ok (.if_icmp .ge 8, 3) := by decide +kernel
theorem dL_build_48 : decode cL_build 48 = .ok (.iload 4, 2) := by decide +kernel
theorem dL_build_50 : decode cL_build 50 = .ok (.goto 9, 3) := by decide +kernel
theorem dL_build_53 : decode cL_build 53 = .ok (.iload 5, 2) := by decide +kernel
theorem dL_build_55 : decode cL_build 55 = .ok (.iconst 2, 1) := by decide +kernel
theorem dL_build_56 : decode cL_build 56 = .ok (.invokestatic 18, 3) := by decide +kernel
theorem dL_build_59 : decode cL_build 59 = .ok (.istore 6, 2) := by decide +kernel
theorem dL_build_61 : decode cL_build 61 = .ok (.iconst 5, 1) := by decide +kernel
theorem dL_build_62 : decode cL_build 62 = .ok (.newarray .int, 2) := by decide +kernel
theorem dL_build_64 : decode cL_build 64 = .ok (.dup, 1) := by decide +kernel
theorem dL_build_65 : decode cL_build 65 = .ok (.iconst 0, 1) := by decide +kernel
theorem dL_build_66 : decode cL_build 66 = .ok (.iload 6, 2) := by decide +kernel
theorem dL_build_68 : decode cL_build 68 = .ok (.iastore, 1) := by decide +kernel
theorem dL_build_69 : decode cL_build 69 = .ok (.dup, 1) := by decide +kernel
theorem dL_build_70 : decode cL_build 70 = .ok (.iconst 1, 1) := by decide +kernel
theorem dL_build_71 : decode cL_build 71 = .ok (.bipush 10, 2) := by decide +kernel
theorem dL_build_73 : decode cL_build 73 = .ok (.iload 5, 2) := by decide +kernel
theorem dL_build_75 : decode cL_build 75 = .ok (.iconst 3, 1) := by decide +kernel
theorem dL_build_76 : decode cL_build 76 = .ok (.ishr, 1) := by decide +kernel
theorem dL_build_77 : decode cL_build 77 = .ok (.bipush 91, 2) := by decide +kernel
theorem dL_build_79 : decode cL_build 79 = .ok (.invokestatic 18, 3) := by decide +kernel
theorem dL_build_82 : decode cL_build 82 = .ok (.iadd, 1) := by decide +kernel
theorem dL_build_83 : decode cL_build 83 = .ok (.iastore, 1) := by decide +kernel
theorem dL_build_84 : decode cL_build 84 = .ok (.dup, 1) := by decide +kernel
theorem dL_build_85 : decode cL_build 85 = .ok (.iconst 2, 1) := by decide +kernel
theorem dL_build_86 : decode cL_build 86 = .ok (.iconst 1, 1) := by decide +kernel
theorem dL_build_87 : decode cL_build 87 = .ok (.iload 5, 2) := by decide +kernel
theorem dL_build_89 : decode cL_build 89 = .ok (.iconst 5, 1) := by decide +kernel
theorem dL_build_90 : decode cL_build 90 = .ok (.ishr, 1) := by decide +kernel
theorem dL_build_91 : decode cL_build 91 = .ok (.bipush 9, 2) := by decide +kernel
theorem dL_build_93 : decode cL_build 93 = .ok (.invokestatic 18, 3) := by decide +kernel
theorem dL_build_96 : decode cL_build 96 = .ok (.iadd, 1) := by decide +kernel
theorem dL_build_97 : decode cL_build 97 = .ok (.iastore, 1) := by decide +kernel
theorem dL_build_98 : decode cL_build 98 = .ok (.dup, 1) := by decide +kernel
theorem dL_build_99 : decode cL_build 99 = .ok (.iconst 3, 1) := by decide +kernel
theorem dL_build_100 : decode cL_build 100 = .ok (.iconst 0, 1) := by decide +kernel
theorem dL_build_101 : decode cL_build 101 = .ok (.iastore, 1) := by decide +kernel
theorem dL_build_102 : decode cL_build 102 = .ok (.dup, 1) := by decide +kernel
theorem dL_build_103 : decode cL_build 103 = .ok (.iconst 4, 1) := by decide +kernel
theorem dL_build_104 : decode cL_build 104 = .ok (.iconst (-1), 1) := by decide +kernel
theorem dL_build_105 : decode cL_build 105 = .ok (.iastore, 1) := by decide +kernel
theorem dL_build_106 : decode cL_build 106 = .ok (.astore 7, 2) := by decide +kernel
theorem dL_build_108 : decode cL_build 108 = .ok (.aload_n 2, 1) := by decide +kernel
theorem dL_build_109 : decode cL_build 109 = .ok (.aload_n 2, 1) := by decide +kernel
theorem dL_build_110 : decode cL_build 110 = .ok (.getfield 9, 3) := by decide +kernel
theorem dL_build_113 : decode cL_build 113 = .ok (.aload 7, 2) := by decide +kernel
theorem dL_build_115 : decode cL_build 115 = .ok (.invokestatic 24, 3) := by decide +kernel
theorem dL_build_118 : decode cL_build 118 = .ok (.putfield 9, 3) := by decide +kernel
theorem dL_build_121 : decode cL_build 121 = .ok (.aload_n 0, 1) := by decide +kernel
theorem dL_build_122 : decode cL_build 122 = .ok (.aload 7, 2) := by decide +kernel
theorem dL_build_124 : decode cL_build 124 = .ok (.iconst 0, 1) := by decide +kernel
theorem dL_build_125 : decode cL_build 125 = .ok (.iaload, 1) := by decide +kernel
theorem dL_build_126 : decode cL_build 126 = .ok (.aload 7, 2) := by decide +kernel
theorem dL_build_128 : decode cL_build 128 = .ok (.iconst 1, 1) := by decide +kernel
theorem dL_build_129 : decode cL_build 129 = .ok (.iaload, 1) := by decide +kernel
theorem dL_build_130 : decode cL_build 130 = .ok (.aload 7, 2) := by decide +kernel
theorem dL_build_132 : decode cL_build 132 = .ok (.iconst 2, 1) := by decide +kernel
theorem dL_build_133 : decode cL_build 133 = .ok (.iaload, 1) := by decide +kernel
theorem dL_build_134 : decode cL_build 134 = .ok (.invokevirtual 28, 3) := by decide +kernel
theorem dL_build_137 : decode cL_build 137 = .ok (.iload 4, 2) := by decide +kernel
theorem dL_build_139 : decode cL_build 139 = .ok (.if_icmp .eq 5, 3) := by decide +kernel
theorem dL_build_142 : decode cL_build 142 = .ok (.aconst_null, 1) := by decide +kernel
theorem dL_build_143 : decode cL_build 143 = .ok (.areturn, 1) := by decide +kernel
theorem dL_build_144 : decode cL_build 144 = .ok (.iload 5, 2) := by decide +kernel
theorem dL_build_146 : decode cL_build 146 = .ok (.bipush 6, 2) := by decide +kernel
theorem dL_build_148 : decode cL_build 148 = .ok (.ishr, 1) := by decide +kernel
theorem dL_build_149 : decode cL_build 149 = .ok (.iload 4, 2) := by decide +kernel
theorem dL_build_151 : decode cL_build 151 = .ok (.iconst 1, 1) := by decide +kernel
theorem dL_build_152 : decode cL_build 152 = .ok (.iadd, 1) := by decide +kernel
theorem dL_build_153 : decode cL_build 153 = .ok (.invokestatic 18, 3) := by decide +kernel
theorem dL_build_156 : decode cL_build 156 = .ok (.iconst 1, 1) := by decide +kernel
theorem dL_build_157 : decode cL_build 157 = .ok (.isub, 1) := by decide +kernel
theorem dL_build_158 : decode cL_build 158 = .ok (.istore 8, 2) := by decide +kernel
theorem dL_build_160 : decode cL_build 160 = .ok (.iload 5, 2) := by decide +kernel
theorem dL_build_162 : decode cL_build 162 = .ok (.iconst 4, 1) := by decide +kernel
theorem dL_build_163 : decode cL_build 163 = .ok (.ishr, 1) := by decide +kernel
theorem dL_build_164 : decode cL_build 164 = .ok (.iconst 3, 1) := by decide +kernel
theorem dL_build_165 : decode cL_build 165 = .ok (.invokestatic 18, 3) := by decide +kernel
theorem dL_build_168 : decode cL_build 168 = .ok (.ifCond .eq 65, 3) := by decide +kernel
theorem dL_build_171 : decode cL_build 171 = .ok (.iload 8, 2) := by decide +kernel
theorem dL_build_173 : decode cL_build 173 = .ok (.ifCond .lt 20, 3) := by decide +kernel
theorem dL_build_176 : decode cL_build 176 = .ok (.aload_n 2, 1) := by decide +kernel
theorem dL_build_177 : decode cL_build 177 = .ok (.getfield 9, 3) := by decide +kernel
theorem dL_build_180 : decode cL_build 180 = .ok (.iload 8, 2) := by decide +kernel
theorem dL_build_182 : decode cL_build 182 = .ok (.aaload, 1) := by decide +kernel
theorem dL_build_183 : decode cL_build 183 = .ok (.iconst 0, 1) := by decide +kernel
theorem dL_build_184 : decode cL_build 184 = .ok (.iaload, 1) := by decide +kernel
theorem dL_build_185 : decode cL_build 185 = .ok (.iload 6, 2) := by decide +kernel
theorem dL_build_187 : decode cL_build 187 = .ok (.if_icmp .eq 6, 3) := by decide +kernel
theorem dL_build_190 : decode cL_build 190 = .ok (.goto 43, 3) := by decide +kernel
theorem dL_build_193 : decode cL_build 193 = .ok (.aload 7, 2) := by decide +kernel
theorem dL_build_195 : decode cL_build 195 = .ok (.iconst 3, 1) := by decide +kernel
theorem dL_build_196 : decode cL_build 196 = .ok (.iconst 1, 1) := by decide +kernel
theorem dL_build_197 : decode cL_build 197 = .ok (.iload 5, 2) := by decide +kernel
theorem dL_build_199 : decode cL_build 199 = .ok (.bipush 8, 2) := by decide +kernel
theorem dL_build_201 : decode cL_build 201 = .ok (.ishr, 1) := by decide +kernel
theorem dL_build_202 : decode cL_build 202 = .ok (.sipush 400, 3) := by decide +kernel
theorem dL_build_205 : decode cL_build 205 = .ok (.invokestatic 18, 3) := by decide +kernel
theorem dL_build_208 : decode cL_build 208 = .ok (.iadd, 1) := by decide +kernel
theorem dL_build_209 : decode cL_build 209 = .ok (.iastore, 1) := by decide +kernel
theorem dL_build_210 : decode cL_build 210 = .ok (.aload 7, 2) := by decide +kernel
theorem dL_build_212 : decode cL_build 212 = .ok (.iconst 4, 1) := by decide +kernel
theorem dL_build_213 : decode cL_build 213 = .ok (.iload 8, 2) := by decide +kernel
theorem dL_build_215 : decode cL_build 215 = .ok (.iastore, 1) := by decide +kernel
theorem dL_build_216 : decode cL_build 216 = .ok (.aload_n 0, 1) := by decide +kernel
theorem dL_build_217 : decode cL_build 217 = .ok (.iload 4, 2) := by decide +kernel
theorem dL_build_219 : decode cL_build 219 = .ok (.aload 7, 2) := by decide +kernel
theorem dL_build_221 : decode cL_build 221 = .ok (.iconst 3, 1) := by decide +kernel
theorem dL_build_222 : decode cL_build 222 = .ok (.iaload, 1) := by decide +kernel
theorem dL_build_223 : decode cL_build 223 = .ok (.iload 8, 2) := by decide +kernel
theorem dL_build_225 : decode cL_build 225 = .ok (.invokevirtual 34, 3) := by decide +kernel
theorem dL_build_228 : decode cL_build 228 = .ok (.ifCond .eq 5, 3) := by decide +kernel
theorem dL_build_231 : decode cL_build 231 = .ok (.aconst_null, 1) := by decide +kernel
theorem dL_build_232 : decode cL_build 232 = .ok (.areturn, 1) := by decide +kernel
theorem dL_build_233 : decode cL_build 233 = .ok (.iinc 4 1, 3) := by decide +kernel
theorem dL_build_236 : decode cL_build 236 = .ok (.goto (-212), 3) := by decide +kernel
theorem dL_build_239 : decode cL_build 239 = .ok (.iconst 0, 1) := by decide +kernel
theorem dL_build_240 : decode cL_build 240 = .ok (.istore 4, 2) := by decide +kernel
theorem dL_build_242 : decode cL_build 242 = .ok (.iload 4, 2) := by decide +kernel
theorem dL_build_244 : decode cL_build 244 = .ok (.iconst 1, 1) := by decide +kernel
theorem dL_build_245 : decode cL_build 245 = .ok (.aload_n 1, 1) := by decide +kernel
theorem dL_build_246 : decode cL_build 246 = .ok (.iconst 0, 1) := by decide +kernel
theorem dL_build_247 : decode cL_build 247 = .ok (.invokestatic 65, 3) := by decide +kernel
theorem dL_build_250 : decode cL_build 250 = .ok (.iconst 5, 1) := by decide +kernel
theorem dL_build_251 : decode cL_build 251 = .ok (.ishr, 1) := by decide +kernel
theorem dL_build_252 : decode cL_build 252 = .ok (.iconst 4, 1) := by decide +kernel
theorem dL_build_253 : decode cL_build 253 = .ok (.invokestatic 18, 3) := by decide +kernel
theorem dL_build_256 : decode cL_build 256 = .ok (.iadd, 1) := by decide +kernel
theorem dL_build_257 : decode cL_build 257 = .ok (.if_icmp .ge 238, 3) := by decide +kernel
theorem dL_build_260 : decode cL_build 260 = .ok (.aload_n 1, 1) := by decide +kernel
theorem dL_build_261 : decode cL_build 261 = .ok (.bipush 6, 2) := by decide +kernel
theorem dL_build_263 : decode cL_build 263 = .ok (.iload 4, 2) := by decide +kernel
theorem dL_build_265 : decode cL_build 265 = .ok (.iadd, 1) := by decide +kernel
theorem dL_build_266 : decode cL_build 266 = .ok (.invokestatic 65, 3) := by decide +kernel
theorem dL_build_269 : decode cL_build 269 = .ok (.iconst 2, 1) := by decide +kernel
theorem dL_build_270 : decode cL_build 270 = .ok (.ishr, 1) := by decide +kernel
theorem dL_build_271 : decode cL_build 271 = .ok (.istore 5, 2) := by decide +kernel
theorem dL_build_273 : decode cL_build 273 = .ok (.iconst 1, 1) := by decide +kernel
theorem dL_build_274 : decode cL_build 274 = .ok (.iload 5, 2) := by decide +kernel
theorem dL_build_276 : decode cL_build 276 = .ok (.sipush 999, 3) := by decide +kernel
theorem dL_build_279 : decode cL_build 279 = .ok (.invokestatic 18, 3) := by decide +kernel
theorem dL_build_282 : decode cL_build 282 = .ok (.iadd, 1) := by decide +kernel
theorem dL_build_283 : decode cL_build 283 = .ok (.istore 6, 2) := by decide +kernel
theorem dL_build_285 : decode cL_build 285 = .ok (.aload_n 2, 1) := by decide +kernel
theorem dL_build_286 : decode cL_build 286 = .ok (.aload_n 2, 1) := by decide +kernel
theorem dL_build_287 : decode cL_build 287 = .ok (.getfield 15, 3) := by decide +kernel
theorem dL_build_290 : decode cL_build 290 = .ok (.iconst 1, 1) := by decide +kernel
theorem dL_build_291 : decode cL_build 291 = .ok (.newarray .int, 2) := by decide +kernel
theorem dL_build_293 : decode cL_build 293 = .ok (.dup, 1) := by decide +kernel
theorem dL_build_294 : decode cL_build 294 = .ok (.iconst 0, 1) := by decide +kernel
theorem dL_build_295 : decode cL_build 295 = .ok (.iload 6, 2) := by decide +kernel
theorem dL_build_297 : decode cL_build 297 = .ok (.iastore, 1) := by decide +kernel
theorem dL_build_298 : decode cL_build 298 = .ok (.invokestatic 24, 3) := by decide +kernel
theorem dL_build_301 : decode cL_build 301 = .ok (.putfield 15, 3) := by decide +kernel
theorem dL_build_304 : decode cL_build 304 = .ok (.aload_n 2, 1) := by decide +kernel
theorem dL_build_305 : decode cL_build 305 = .ok (.aload_n 2, 1) := by decide +kernel
theorem dL_build_306 : decode cL_build 306 = .ok (.getfield 37, 3) := by decide +kernel
theorem dL_build_309 : decode cL_build 309 = .ok (.iconst 1, 1) := by decide +kernel
theorem dL_build_310 : decode cL_build 310 = .ok (.newarray .int, 2) := by decide +kernel
theorem dL_build_312 : decode cL_build 312 = .ok (.dup, 1) := by decide +kernel
theorem dL_build_313 : decode cL_build 313 = .ok (.iconst 0, 1) := by decide +kernel
theorem dL_build_314 : decode cL_build 314 = .ok (.iconst 1, 1) := by decide +kernel
theorem dL_build_315 : decode cL_build 315 = .ok (.iastore, 1) := by decide +kernel
theorem dL_build_316 : decode cL_build 316 = .ok (.invokestatic 24, 3) := by decide +kernel
theorem dL_build_319 : decode cL_build 319 = .ok (.putfield 37, 3) := by decide +kernel
theorem dL_build_322 : decode cL_build 322 = .ok (.aload_n 0, 1) := by decide +kernel
theorem dL_build_323 : decode cL_build 323 = .ok (.iconst 1, 1) := by decide +kernel
theorem dL_build_324 : decode cL_build 324 = .ok (.iload 6, 2) := by decide +kernel
theorem dL_build_326 : decode cL_build 326 = .ok (.invokevirtual 40, 3) := by decide +kernel
theorem dL_build_329 : decode cL_build 329 = .ok (.iload 4, 2) := by decide +kernel
theorem dL_build_331 : decode cL_build 331 = .ok (.if_icmp .eq 5, 3) := by decide +kernel
theorem dL_build_334 : decode cL_build 334 = .ok (.aconst_null, 1) := by decide +kernel
theorem dL_build_335 : decode cL_build 335 = .ok (.areturn, 1) := by decide +kernel
theorem dL_build_336 : decode cL_build 336 = .ok (.iconst 1, 1) := by decide +kernel
theorem dL_build_337 : decode cL_build 337 = .ok (.istore 7, 2) := by decide +kernel
theorem dL_build_339 : decode cL_build 339 = .ok (.iload 7, 2) := by decide +kernel
theorem dL_build_341 : decode cL_build 341 = .ok (.iconst 1, 1) := by decide +kernel
theorem dL_build_342 : decode cL_build 342 = .ok (.iload 5, 2) := by decide +kernel
theorem dL_build_344 : decode cL_build 344 = .ok (.iconst 5, 1) := by decide +kernel
theorem dL_build_345 : decode cL_build 345 = .ok (.ishr, 1) := by decide +kernel
theorem dL_build_346 : decode cL_build 346 = .ok (.iconst 5, 1) := by decide +kernel
theorem dL_build_347 : decode cL_build 347 = .ok (.invokestatic 18, 3) := by decide +kernel
theorem dL_build_350 : decode cL_build 350 = .ok (.iadd, 1) := by decide +kernel
theorem dL_build_351 : decode cL_build 351 = .ok (.if_icmp .ge 138, 3) := by decide +kernel
theorem dL_build_354 : decode cL_build 354 = .ok (.iconst 1, 1) := by decide +kernel
theorem dL_build_355 : decode cL_build 355 = .ok (.iload 5, 2) := by decide +kernel
theorem dL_build_357 : decode cL_build 357 = .ok (.iload 7, 2) := by decide +kernel
theorem dL_build_359 : decode cL_build 359 = .ok (.iconst 3, 1) := by decide +kernel
theorem dL_build_360 : decode cL_build 360 = .ok (.iadd, 1) := by decide +kernel
theorem dL_build_361 : decode cL_build 361 = .ok (.ishr, 1) := by decide +kernel
theorem dL_build_362 : decode cL_build 362 = .ok (.sipush 999, 3) := by decide +kernel
theorem dL_build_365 : decode cL_build 365 = .ok (.invokestatic 18, 3) := by decide +kernel
theorem dL_build_368 : decode cL_build 368 = .ok (.iadd, 1) := by decide +kernel
theorem dL_build_369 : decode cL_build 369 = .ok (.istore 6, 2) := by decide +kernel
theorem dL_build_371 : decode cL_build 371 = .ok (.iload 5, 2) := by decide +kernel
theorem dL_build_373 : decode cL_build 373 = .ok (.iload 7, 2) := by decide +kernel
theorem dL_build_375 : decode cL_build 375 = .ok (.ishr, 1) := by decide +kernel
theorem dL_build_376 : decode cL_build 376 = .ok (.iload_n 3, 1) := by decide +kernel
theorem dL_build_377 : decode cL_build 377 = .ok (.invokestatic 18, 3) := by decide +kernel
theorem dL_build_380 : decode cL_build 380 = .ok (.istore 8, 2) := by decide +kernel
theorem dL_build_382 : decode cL_build 382 = .ok (.aload_n 2, 1) := by decide +kernel
theorem dL_build_383 : decode cL_build 383 = .ok (.getfield 9, 3) := by decide +kernel
theorem dL_build_386 : decode cL_build 386 = .ok (.iload 8, 2) := by decide +kernel
theorem dL_build_388 : decode cL_build 388 = .ok (.aaload, 1) := by decide +kernel
theorem dL_build_389 : decode cL_build 389 = .ok (.iconst 0, 1) := by decide +kernel
theorem dL_build_390 : decode cL_build 390 = .ok (.iaload, 1) := by decide +kernel
theorem dL_build_391 : decode cL_build 391 = .ok (.iconst 1, 1) := by decide +kernel
theorem dL_build_392 : decode cL_build 392 = .ok (.if_icmp .ne 6, 3) := by decide +kernel
theorem dL_build_395 : decode cL_build 395 = .ok (.iconst 0, 1) := by decide +kernel
theorem dL_build_396 : decode cL_build 396 = .ok (.istore 8, 2) := by decide +kernel
theorem dL_build_398 : decode cL_build 398 = .ok (.aload_n 2, 1) := by decide +kernel
theorem dL_build_399 : decode cL_build 399 = .ok (.getfield 15, 3) := by decide +kernel
theorem dL_build_402 : decode cL_build 402 = .ok (.iload 4, 2) := by decide +kernel
theorem dL_build_404 : decode cL_build 404 = .ok (.aload_n 2, 1) := by decide +kernel
theorem dL_build_405 : decode cL_build 405 = .ok (.getfield 15, 3) := by decide +kernel
theorem dL_build_408 : decode cL_build 408 = .ok (.iload 4, 2) := by decide +kernel
theorem dL_build_410 : decode cL_build 410 = .ok (.aaload, 1) := by decide +kernel
theorem dL_build_411 : decode cL_build 411 = .ok (.iload 7, 2) := by decide +kernel
theorem dL_build_413 : decode cL_build 413 = .ok (.iconst 1, 1) := by decide +kernel
theorem dL_build_414 : decode cL_build 414 = .ok (.iadd, 1) := by decide +kernel
theorem dL_build_415 : decode cL_build 415 = .ok (.invokestatic 43, 3) := by decide +kernel
theorem dL_build_418 : decode cL_build 418 = .ok (.aastore, 1) := by decide +kernel
theorem dL_build_419 : decode cL_build 419 = .ok (.aload_n 2, 1) := by decide +kernel
theorem dL_build_420 : decode cL_build 420 = .ok (.getfield 37, 3) := by decide +kernel
theorem dL_build_423 : decode cL_build 423 = .ok (.iload 4, 2) := by decide +kernel
theorem dL_build_425 : decode cL_build 425 = .ok (.aload_n 2, 1) := by decide +kernel
theorem dL_build_426 : decode cL_build 426 = .ok (.getfield 37, 3) := by decide +kernel
theorem dL_build_429 : decode cL_build 429 = .ok (.iload 4, 2) := by decide +kernel
theorem dL_build_431 : decode cL_build 431 = .ok (.aaload, 1) := by decide +kernel
theorem dL_build_432 : decode cL_build 432 = .ok (.iload 7, 2) := by decide +kernel
theorem dL_build_434 : decode cL_build 434 = .ok (.iconst 1, 1) := by decide +kernel
theorem dL_build_435 : decode cL_build 435 = .ok (.iadd, 1) := by decide +kernel
theorem dL_build_436 : decode cL_build 436 = .ok (.invokestatic 43, 3) := by decide +kernel
theorem dL_build_439 : decode cL_build 439 = .ok (.aastore, 1) := by decide +kernel
theorem dL_build_440 : decode cL_build 440 = .ok (.aload_n 2, 1) := by decide +kernel
theorem dL_build_441 : decode cL_build 441 = .ok (.getfield 15, 3) := by decide +kernel
theorem dL_build_444 : decode cL_build 444 = .ok (.iload 4, 2) := by decide +kernel
theorem dL_build_446 : decode cL_build 446 = .ok (.aaload, 1) := by decide +kernel
theorem dL_build_447 : decode cL_build 447 = .ok (.iload 7, 2) := by decide +kernel
theorem dL_build_449 : decode cL_build 449 = .ok (.iload 6, 2) := by decide +kernel
theorem dL_build_451 : decode cL_build 451 = .ok (.iastore, 1) := by decide +kernel
theorem dL_build_452 : decode cL_build 452 = .ok (.aload_n 2, 1) := by decide +kernel
theorem dL_build_453 : decode cL_build 453 = .ok (.getfield 37, 3) := by decide +kernel
theorem dL_build_456 : decode cL_build 456 = .ok (.iload 4, 2) := by decide +kernel
theorem dL_build_458 : decode cL_build 458 = .ok (.aaload, 1) := by decide +kernel
theorem dL_build_459 : decode cL_build 459 = .ok (.iload 7, 2) := by decide +kernel
theorem dL_build_461 : decode cL_build 461 = .ok (.iload 8, 2) := by decide +kernel
theorem dL_build_463 : decode cL_build 463 = .ok (.iastore, 1) := by decide +kernel
theorem dL_build_464 : decode cL_build 464 = .ok (.aload_n 0, 1) := by decide +kernel
theorem dL_build_465 : decode cL_build 465 = .ok (.iload 4, 2) := by decide +kernel
theorem dL_build_467 : decode cL_build 467 = .ok (.iload 8, 2) := by decide +kernel
theorem dL_build_469 : decode cL_build 469 = .ok (.iload 6, 2) := by decide +kernel
theorem dL_build_471 : decode cL_build 471 = .ok (.invokevirtual 47, 3) := by decide +kernel
theorem dL_build_474 : decode cL_build 474 = .ok (.iload 7, 2) := by decide +kernel
theorem dL_build_476 : decode cL_build 476 = .ok (.iconst 1, 1) := by decide +kernel
theorem dL_build_477 : decode cL_build 477 = .ok (.iadd, 1) := by decide +kernel
theorem dL_build_478 : decode cL_build 478 = .ok (.if_icmp .eq 5, 3) := by decide +kernel
theorem dL_build_481 : decode cL_build 481 = .ok (.aconst_null, 1) := by decide +kernel
theorem dL_build_482 : decode cL_build 482 = .ok (.areturn, 1) := by decide +kernel
theorem dL_build_483 : decode cL_build 483 = .ok (.iinc 7 1, 3) := by decide +kernel
theorem dL_build_486 : decode cL_build 486 = .ok (.goto (-147), 3) := by decide +kernel
theorem dL_build_489 : decode cL_build 489 = .ok (.iinc 4 1, 3) := by decide +kernel
theorem dL_build_492 : decode cL_build 492 = .ok (.goto (-250), 3) := by decide +kernel
theorem dL_build_495 : decode cL_build 495 = .ok (.aload_n 2, 1) := by decide +kernel
theorem dL_build_496 : decode cL_build 496 = .ok (.areturn, 1) := by decide +kernel
end
section
theorem dL_law_0 : decode cL_law 0 = .ok (.new 29, 3) := by decide +kernel
theorem dL_law_3 : decode cL_law 3 = .ok (.dup, 1) := by decide +kernel
theorem dL_law_4 : decode cL_law 4 = .ok (.invokespecial 69, 3) := by decide +kernel
theorem dL_law_7 : decode cL_law 7 = .ok (.astore_n 1, 1) := by decide +kernel
theorem dL_law_8 : decode cL_law 8 = .ok (.aload_n 1, 1) := by decide +kernel
theorem dL_law_9 : decode cL_law 9 = .ok (.aload_n 0, 1) := by decide +kernel
theorem dL_law_10 : decode cL_law 10 = .ok (.invokestatic 70, 3) := by decide +kernel
theorem dL_law_13 : decode cL_law 13 = .ok (.astore_n 2, 1) := by decide +kernel
theorem dL_law_14 : decode cL_law 14 = .ok (.aload_n 2, 1) := by decide +kernel
theorem dL_law_15 : decode cL_law 15 = .ok (.ifnonnull 5, 3) := by decide +kernel
theorem dL_law_18 : decode cL_law 18 = .ok (.iconst 0, 1) := by decide +kernel
theorem dL_law_19 : decode cL_law 19 = .ok (.ireturn, 1) := by decide +kernel
theorem dL_law_20 : decode cL_law 20 = .ok (.iconst 0, 1) := by decide +kernel
theorem dL_law_21 : decode cL_law 21 = .ok (.istore_n 3, 1) := by decide +kernel
theorem dL_law_22 : decode cL_law 22 = .ok (.iload_n 3, 1) := by decide +kernel
theorem dL_law_23 : decode cL_law 23 = .ok (.bipush 8, 2) := by decide +kernel
theorem dL_law_25 : decode cL_law 25 = .ok (.if_icmp .ge 1145, 3) := by decide +kernel
theorem dL_law_28 : decode cL_law 28 = .ok (.aload_n 0, 1) := by decide +kernel
theorem dL_law_29 : decode cL_law 29 = .ok (.iload_n 3, 1) := by decide +kernel
theorem dL_law_30 : decode cL_law 30 = .ok (.iconst 1, 1) := by decide +kernel
theorem dL_law_31 : decode cL_law 31 = .ok (.iadd, 1) := by decide +kernel
theorem dL_law_32 : decode cL_law 32 = .ok (.invokestatic 65, 3) := by decide +kernel
theorem dL_law_35 : decode cL_law 35 = .ok (.iconst 2, 1) := by decide +kernel
theorem dL_law_36 : decode cL_law 36 = .ok (.ishr, 1) := by decide +kernel
theorem dL_law_37 : decode cL_law 37 = .ok (.bipush 53, 2) := by decide +kernel
theorem dL_law_39 : decode cL_law 39 = .ok (.iload_n 3, 1) := by decide +kernel
theorem dL_law_40 : decode cL_law 40 = .ok (.imul, 1) := by decide +kernel
theorem dL_law_41 : decode cL_law 41 = .ok (.iadd, 1) := by decide +kernel
theorem dL_law_42 : decode cL_law 42 = .ok (.istore 4, 2) := by decide +kernel
theorem dL_law_44 : decode cL_law 44 = .ok (.iconst 0, 1) := by decide +kernel
theorem dL_law_45 : decode cL_law 45 = .ok (.istore 5, 2) := by decide +kernel
theorem dL_law_47 : decode cL_law 47 = .ok (.iload 5, 2) := by decide +kernel
theorem dL_law_49 : decode cL_law 49 = .ok (.iconst 3, 1) := by decide +kernel
theorem dL_law_50 : decode cL_law 50 = .ok (.if_icmp .ge 32, 3) := by decide +kernel
theorem dL_law_53 : decode cL_law 53 = .ok (.aload_n 1, 1) := by decide +kernel
theorem dL_law_54 : decode cL_law 54 = .ok (.aload_n 2, 1) := by decide +kernel
theorem dL_law_55 : decode cL_law 55 = .ok (.iload 4, 2) := by decide +kernel
theorem dL_law_57 : decode cL_law 57 = .ok (.iconst 3, 1) := by decide +kernel
theorem dL_law_58 : decode cL_law 58 = .ok (.iload 5, 2) := by decide +kernel
theorem dL_law_60 : decode cL_law 60 = .ok (.imul, 1) := by decide +kernel
theorem dL_law_61 : decode cL_law 61 = .ok (.ishr, 1) := by decide +kernel
theorem dL_law_62 : decode cL_law 62 = .ok (.bipush 29, 2) := by decide +kernel
theorem dL_law_64 : decode cL_law 64 = .ok (.iload 5, 2) := by decide +kernel
theorem dL_law_66 : decode cL_law 66 = .ok (.imul, 1) := by decide +kernel
theorem dL_law_67 : decode cL_law 67 = .ok (.iadd, 1) := by decide +kernel
theorem dL_law_68 : decode cL_law 68 = .ok (.invokestatic 74, 3) := by decide +kernel
theorem dL_law_71 : decode cL_law 71 = .ok (.ifCond .ne 5, 3) := by decide +kernel
theorem dL_law_74 : decode cL_law 74 = .ok (.iconst 0, 1) := by decide +kernel
theorem dL_law_75 : decode cL_law 75 = .ok (.ireturn, 1) := by decide +kernel
theorem dL_law_76 : decode cL_law 76 = .ok (.iinc 5 1, 3) := by decide +kernel
theorem dL_law_79 : decode cL_law 79 = .ok (.goto (-32), 3) := by decide +kernel
theorem dL_law_82 : decode cL_law 82 = .ok (.aload_n 1, 1) := by decide +kernel
theorem dL_law_83 : decode cL_law 83 = .ok (.invokevirtual 78, 3) := by decide +kernel
theorem dL_law_86 : decode cL_law 86 = .ok (.lstore 5, 2) := by decide +kernel
theorem dL_law_88 : decode cL_law 88 = .ok (.aload_n 1, 1) := by decide +kernel
theorem dL_law_89 : decode cL_law 89 = .ok (.invokevirtual 82, 3) := by decide +kernel
theorem dL_law_92 : decode cL_law 92 = .ok (.istore 7, 2) := by decide +kernel
theorem dL_law_94 : decode cL_law 94 = .ok (.iconst 0, 1) := by decide +kernel
theorem dL_law_95 : decode cL_law 95 = .ok (.istore 8, 2) := by decide +kernel
theorem dL_law_97 : decode cL_law 97 = .ok (.iload 8, 2) := by decide +kernel
theorem dL_law_99 : decode cL_law 99 = .ok (.iconst 2, 1) := by decide +kernel
theorem dL_law_100 : decode cL_law 100 = .ok (.if_icmp .ge 91, 3) := by decide +kernel
theorem dL_law_103 : decode cL_law 103 = .ok (.iconst 0, 1) := by decide +kernel
theorem dL_law_104 : decode cL_law 104 = .ok (.istore 9, 2) := by decide +kernel
theorem dL_law_106 : decode cL_law 106 = .ok (.iload 9, 2) := by decide +kernel
theorem dL_law_108 : decode cL_law 108 = .ok (.aload_n 1, 1) := by decide +kernel
theorem dL_law_109 : decode cL_law 109 = .ok (.iload 8, 2) := by decide +kernel
theorem dL_law_111 : decode cL_law 111 = .ok (.invokevirtual 85, 3) := by decide +kernel
theorem dL_law_114 : decode cL_law 114 = .ok (.if_icmp .ge 71, 3) := by decide +kernel
theorem dL_law_117 : decode cL_law 117 = .ok (.aload_n 1, 1) := by decide +kernel
theorem dL_law_118 : decode cL_law 118 = .ok (.iload 8, 2) := by decide +kernel
theorem dL_law_120 : decode cL_law 120 = .ok (.iload 9, 2) := by decide +kernel
theorem dL_law_122 : decode cL_law 122 = .ok (.invokevirtual 89, 3) := by decide +kernel
theorem dL_law_125 : decode cL_law 125 = .ok (.istore 10, 2) := by decide +kernel
theorem dL_law_127 : decode cL_law 127 = .ok (.aload_n 1, 1) := by decide +kernel
theorem dL_law_128 : decode cL_law 128 = .ok (.iload 10, 2) := by decide +kernel
theorem dL_law_130 : decode cL_law 130 = .ok (.invokevirtual 92, 3) := by decide +kernel
theorem dL_law_133 : decode cL_law 133 = .ok (.iload 8, 2) := by decide +kernel
theorem dL_law_135 : decode cL_law 135 = .ok (.if_icmp .ne 42, 3) := by decide +kernel
theorem dL_law_138 : decode cL_law 138 = .ok (.aload_n 1, 1) := by decide +kernel
theorem dL_law_139 : decode cL_law 139 = .ok (.iload 10, 2) := by decide +kernel
theorem dL_law_141 : decode cL_law 141 = .ok (.invokevirtual 95, 3) := by decide +kernel
theorem dL_law_144 : decode cL_law 144 = .ok (.iload 9, 2) := by decide +kernel
theorem dL_law_146 : decode cL_law 146 = .ok (.if_icmp .ne 31, 3) := by decide +kernel
theorem dL_law_149 : decode cL_law 149 = .ok (.iload 9, 2) := by decide +kernel
theorem dL_law_151 : decode cL_law 151 = .ok (.ifCond .le 28, 3) := by decide +kernel
theorem dL_law_154 : decode cL_law 154 = .ok (.aload_n 1, 1) := by decide +kernel
theorem dL_law_155 : decode cL_law 155 = .ok (.iload 10, 2) := by decide +kernel
theorem dL_law_157 : decode cL_law 157 = .ok (.invokevirtual 98, 3) := by decide +kernel
theorem dL_law_160 : decode cL_law 160 = .ok (.aload_n 1, 1) := by decide +kernel
theorem dL_law_161 : decode cL_law 161 = .ok (.aload_n 1, 1) := by decide +kernel
theorem dL_law_162 : decode cL_law 162 = .ok (.iload 8, 2) := by decide +kernel
theorem dL_law_164 : decode cL_law 164 = .ok (.iload 9, 2) := by decide +kernel
theorem dL_law_166 : decode cL_law 166 = .ok (.iconst 1, 1) := by decide +kernel
theorem dL_law_167 : decode cL_law 167 = .ok (.isub, 1) := by decide +kernel
theorem dL_law_168 : decode cL_law 168 = .ok (.invokevirtual 89, 3) := by decide +kernel
theorem dL_law_171 : decode cL_law 171 = .ok (.invokevirtual 98, 3) := by decide +kernel
theorem dL_law_174 : decode cL_law 174 = .ok (.if_icmp .le 5, 3) := by decide +kernel
theorem dL_law_177 : decode cL_law 177 = .ok (.iconst 0, 1) := by decide +kernel
theorem dL_law_178 : decode cL_law 178 = .ok (.ireturn, 1) := by decide +kernel
theorem dL_law_179 : decode cL_law 179 = .ok (.iinc 9 1, 3) := by decide +kernel
theorem dL_law_182 : decode cL_law 182 = .ok (.goto (-76), 3) := by decide +kernel
theorem dL_law_185 : decode cL_law 185 = .ok (.iinc 8 1, 3) := by decide +kernel
theorem dL_law_188 : decode cL_law 188 = .ok (.goto (-91), 3) := by decide +kernel
theorem dL_law_191 : decode cL_law 191 = .ok (.iconst 1, 1) := by decide +kernel
theorem dL_law_192 : decode cL_law 192 = .ok (.iload 4, 2) := by decide +kernel
theorem dL_law_194 : decode cL_law 194 = .ok (.iconst 3, 1) := by decide +kernel
theorem dL_law_195 : decode cL_law 195 = .ok (.ishr, 1) := by decide +kernel
theorem dL_law_196 : decode cL_law 196 = .ok (.sipush 999, 3) := by decide +kernel
theorem dL_law_199 : decode cL_law 199 = .ok (.invokestatic 18, 3) := by decide +kernel
theorem dL_law_202 : decode cL_law 202 = .ok (.iadd, 1) := by decide +kernel
theorem dL_law_203 : decode cL_law 203 = .ok (.istore 8, 2) := by decide +kernel
theorem dL_law_205 : decode cL_law 205 = .ok (.sipush 999, 3) := by decide +kernel
theorem dL_law_208 : decode cL_law 208 = .ok (.iload 8, 2) := by decide +kernel
theorem dL_law_210 : decode cL_law 210 = .ok (.iload 4, 2) := by decide +kernel
theorem dL_law_212 : decode cL_law 212 = .ok (.iconst 5, 1) := by decide +kernel
theorem dL_law_213 : decode cL_law 213 = .ok (.ishr, 1) := by decide +kernel
theorem dL_law_214 : decode cL_law 214 = .ok (.sipush 300, 3) := by decide +kernel
theorem dL_law_217 : decode cL_law 217 = .ok (.invokestatic 18, 3) := by decide +kernel
theorem dL_law_220 : decode cL_law 220 = .ok (.iadd, 1) := by decide +kernel
theorem dL_law_221 : decode cL_law 221 = .ok (.invokestatic 101, 3) := by decide +kernel
theorem dL_law_224 : decode cL_law 224 = .ok (.istore 9, 2) := by decide +kernel
theorem dL_law_226 : decode cL_law 226 = .ok (.iconst 0, 1) := by decide +kernel
theorem dL_law_227 : decode cL_law 227 = .ok (.istore 10, 2) := by decide +kernel
theorem dL_law_229 : decode cL_law 229 = .ok (.iload 10, 2) := by decide +kernel
theorem dL_law_231 : decode cL_law 231 = .ok (.iload 7, 2) := by decide +kernel
theorem dL_law_233 : decode cL_law 233 = .ok (.if_icmp .ge 251, 3) := by decide +kernel
theorem dL_law_236 : decode cL_law 236 = .ok (.aload_n 1, 1) := by decide +kernel
theorem dL_law_237 : decode cL_law 237 = .ok (.iload 10, 2) := by decide +kernel
theorem dL_law_239 : decode cL_law 239 = .ok (.iload 8, 2) := by decide +kernel
theorem dL_law_241 : decode cL_law 241 = .ok (.invokevirtual 106, 3) := by decide +kernel
theorem dL_law_244 : decode cL_law 244 = .ok (.istore 11, 2) := by decide +kernel
theorem dL_law_246 : decode cL_law 246 = .ok (.aload_n 1, 1) := by decide +kernel
theorem dL_law_247 : decode cL_law 247 = .ok (.iload 10, 2) := by decide +kernel
theorem dL_law_249 : decode cL_law 249 = .ok (.invokevirtual 109, 3) := by decide +kernel
theorem dL_law_252 : decode cL_law 252 = .ok (.istore 12, 2) := by decide +kernel
theorem dL_law_254 : decode cL_law 254 = .ok (.iload 11, 2) := by decide +kernel
theorem dL_law_256 : decode cL_law 256 = .ok (.iload 10, 2) := by decide +kernel
theorem dL_law_258 : decode cL_law 258 = .ok (.if_icmp .gt 109, 3) := by decide +kernel
theorem dL_law_261 : decode cL_law 261 = .ok (.iload 11, 2) := by decide +kernel
theorem dL_law_263 : decode cL_law 263 = .ok (.ifCond .lt 38, 3) := by decide +kernel
theorem dL_law_266 : decode cL_law 266 = .ok (.aload_n 1, 1) := by decide +kernel
theorem dL_law_267 : decode cL_law 267 = .ok (.iload 11, 2) := by decide +kernel
theorem dL_law_269 : decode cL_law 269 = .ok (.invokevirtual 92, 3) := by decide +kernel
theorem dL_law_272 : decode cL_law 272 = .ok (.aload_n 1, 1) := by decide +kernel
theorem dL_law_273 : decode cL_law 273 = .ok (.iload 10, 2) := by decide +kernel
theorem dL_law_275 : decode cL_law 275 = .ok (.invokevirtual 92, 3) := by decide +kernel
theorem dL_law_278 : decode cL_law 278 = .ok (.if_icmp .ne 89, 3) := by decide +kernel
theorem dL_law_281 : decode cL_law 281 = .ok (.aload_n 1, 1) := by decide +kernel
theorem dL_law_282 : decode cL_law 282 = .ok (.iload 11, 2) := by decide +kernel
theorem dL_law_284 : decode cL_law 284 = .ok (.invokevirtual 112, 3) := by decide +kernel
theorem dL_law_287 : decode cL_law 287 = .ok (.ifCond .le 14, 3) := by decide +kernel
theorem dL_law_290 : decode cL_law 290 = .ok (.aload_n 1, 1) := by decide +kernel
theorem dL_law_291 : decode cL_law 291 = .ok (.iload 11, 2) := by decide +kernel
theorem dL_law_293 : decode cL_law 293 = .ok (.invokevirtual 112, 3) := by decide +kernel
theorem dL_law_296 : decode cL_law 296 = .ok (.iload 8, 2) := by decide +kernel
theorem dL_law_298 : decode cL_law 298 = .ok (.if_icmp .le 69, 3) := by decide +kernel
theorem dL_law_301 : decode cL_law 301 = .ok (.iload 11, 2) := by decide +kernel
theorem dL_law_303 : decode cL_law 303 = .ok (.iload 10, 2) := by decide +kernel
theorem dL_law_305 : decode cL_law 305 = .ok (.if_icmp .ne 7, 3) := by decide +kernel
theorem dL_law_308 : decode cL_law 308 = .ok (.iconst 1, 1) := by decide +kernel
theorem dL_law_309 : decode cL_law 309 = .ok (.goto 4, 3) := by decide +kernel
theorem dL_law_312 : decode cL_law 312 = .ok (.iconst 0, 1) := by decide +kernel
theorem dL_law_313 : decode cL_law 313 = .ok (.aload_n 1, 1) := by decide +kernel
theorem dL_law_314 : decode cL_law 314 = .ok (.iload 10, 2) := by decide +kernel
theorem dL_law_316 : decode cL_law 316 = .ok (.iload 8, 2) := by decide +kernel
theorem dL_law_318 : decode cL_law 318 = .ok (.invokevirtual 115, 3) := by decide +kernel
theorem dL_law_321 : decode cL_law 321 = .ok (.ifCond .ne 7, 3) := by decide +kernel
theorem dL_law_324 : decode cL_law 324 = .ok (.iconst 1, 1) := by decide +kernel
theorem dL_law_325 : decode cL_law 325 = .ok (.goto 4, 3) := by decide +kernel
theorem dL_law_328 : decode cL_law 328 = .ok (.iconst 0, 1) := by decide +kernel
theorem dL_law_329 : decode cL_law 329 = .ok (.if_icmp .ne 38, 3) := by decide +kernel
theorem dL_law_332 : decode cL_law 332 = .ok (.aload_n 1, 1) := by decide +kernel
theorem dL_law_333 : decode cL_law 333 = .ok (.iload 10, 2) := by decide +kernel
theorem dL_law_335 : decode cL_law 335 = .ok (.iload 9, 2) := by decide +kernel
theorem dL_law_337 : decode cL_law 337 = .ok (.invokevirtual 115, 3) := by decide +kernel
theorem dL_law_340 : decode cL_law 340 = .ok (.aload_n 1, 1) := by decide +kernel
theorem dL_law_341 : decode cL_law 341 = .ok (.iload 10, 2) := by decide +kernel
theorem dL_law_343 : decode cL_law 343 = .ok (.iload 8, 2) := by decide +kernel
theorem dL_law_345 : decode cL_law 345 = .ok (.invokevirtual 115, 3) := by decide +kernel
theorem dL_law_348 : decode cL_law 348 = .ok (.if_icmp .lt 19, 3) := by decide +kernel
theorem dL_law_351 : decode cL_law 351 = .ok (.iload 11, 2) := by decide +kernel
theorem dL_law_353 : decode cL_law 353 = .ok (.ifCond .ge 16, 3) := by decide +kernel
theorem dL_law_356 : decode cL_law 356 = .ok (.aload_n 1, 1) := by decide +kernel
theorem dL_law_357 : decode cL_law 357 = .ok (.iload 10, 2) := by decide +kernel
theorem dL_law_359 : decode cL_law 359 = .ok (.iload 9, 2) := by decide +kernel
theorem dL_law_361 : decode cL_law 361 = .ok (.invokevirtual 106, 3) := by decide +kernel
theorem dL_law_364 : decode cL_law 364 = .ok (.ifCond .lt 5, 3) := by decide +kernel
theorem dL_law_367 : decode cL_law 367 = .ok (.iconst 0, 1) := by decide +kernel
theorem dL_law_368 : decode cL_law 368 = .ok (.ireturn, 1) := by decide +kernel
theorem dL_law_369 : decode cL_law 369 = .ok (.iload 12, 2) := by decide +kernel
theorem dL_law_371 : decode cL_law 371 = .ok (.ifCond .lt 105, 3) := by decide +kernel
theorem dL_law_374 : decode cL_law 374 = .ok (.iload 12, 2) := by decide +kernel
theorem dL_law_376 : decode cL_law 376 = .ok (.sipush 999, 3) := by decide +kernel
theorem dL_law_379 : decode cL_law 379 = .ok (.if_icmp .gt 97, 3) := by decide +kernel
theorem dL_law_382 : decode cL_law 382 = .ok (.iload 12, 2) := by decide +kernel
theorem dL_law_384 : decode cL_law 384 = .ok (.ifCond .le 14, 3) := by decide +kernel
theorem dL_law_387 : decode cL_law 387 = .ok (.iload 8, 2) := by decide +kernel
theorem dL_law_389 : decode cL_law 389 = .ok (.iload 12, 2) := by decide +kernel
theorem dL_law_391 : decode cL_law 391 = .ok (.if_icmp .lt 7, 3) := by decide +kernel
theorem dL_law_394 : decode cL_law 394 = .ok (.iconst 1, 1) := by decide +kernel
theorem dL_law_395 : decode cL_law 395 = .ok (.goto 4, 3) := by decide +kernel
theorem dL_law_398 : decode cL_law 398 = .ok (.iconst 0, 1) := by decide +kernel
theorem dL_law_399 : decode cL_law 399 = .ok (.iload 11, 2) := by decide +kernel
theorem dL_law_401 : decode cL_law 401 = .ok (.ifCond .ge 7, 3) := by decide +kernel
theorem dL_law_404 : decode cL_law 404 = .ok (.iconst 1, 1) := by decide +kernel
theorem dL_law_405 : decode cL_law 405 = .ok (.goto 4, 3) := by decide +kernel
theorem dL_law_408 : decode cL_law 408 = .ok (.iconst 0, 1) := by decide +kernel
theorem dL_law_409 : decode cL_law 409 = .ok (.if_icmp .ne 67, 3) := by decide +kernel
theorem dL_law_412 : decode cL_law 412 = .ok (.iload 12, 2) := by decide +kernel
theorem dL_law_414 : decode cL_law 414 = .ok (.ifCond .le 14, 3) := by decide +kernel
theorem dL_law_417 : decode cL_law 417 = .ok (.aload_n 1, 1) := by decide +kernel
theorem dL_law_418 : decode cL_law 418 = .ok (.iload 10, 2) := by decide +kernel
theorem dL_law_420 : decode cL_law 420 = .ok (.iload 12, 2) := by decide +kernel
theorem dL_law_422 : decode cL_law 422 = .ok (.invokevirtual 106, 3) := by decide +kernel
theorem dL_law_425 : decode cL_law 425 = .ok (.ifCond .ge 51, 3) := by decide +kernel
theorem dL_law_428 : decode cL_law 428 = .ok (.iload 12, 2) := by decide +kernel
theorem dL_law_430 : decode cL_law 430 = .ok (.iconst 1, 1) := by decide +kernel
theorem dL_law_431 : decode cL_law 431 = .ok (.if_icmp .le 16, 3) := by decide +kernel
theorem dL_law_434 : decode cL_law 434 = .ok (.aload_n 1, 1) := by decide +kernel
theorem dL_law_435 : decode cL_law 435 = .ok (.iload 10, 2) := by decide +kernel
theorem dL_law_437 : decode cL_law 437 = .ok (.iload 12, 2) := by decide +kernel
theorem dL_law_439 : decode cL_law 439 = .ok (.iconst 1, 1) := by decide +kernel
theorem dL_law_440 : decode cL_law 440 = .ok (.isub, 1) := by decide +kernel
theorem dL_law_441 : decode cL_law 441 = .ok (.invokevirtual 106, 3) := by decide +kernel
theorem dL_law_444 : decode cL_law 444 = .ok (.ifCond .lt 32, 3) := by decide +kernel
theorem dL_law_447 : decode cL_law 447 = .ok (.aload_n 1, 1) := by decide +kernel
theorem dL_law_448 : decode cL_law 448 = .ok (.iload 10, 2) := by decide +kernel
theorem dL_law_450 : decode cL_law 450 = .ok (.invokevirtual 118, 3) := by decide +kernel
theorem dL_law_453 : decode cL_law 453 = .ok (.iload 10, 2) := by decide +kernel
theorem dL_law_455 : decode cL_law 455 = .ok (.if_icmp .ge 21, 3) := by decide +kernel
theorem dL_law_458 : decode cL_law 458 = .ok (.aload_n 1, 1) := by decide +kernel
theorem dL_law_459 : decode cL_law 459 = .ok (.iload 10, 2) := by decide +kernel
theorem dL_law_461 : decode cL_law 461 = .ok (.invokevirtual 112, 3) := by decide +kernel
theorem dL_law_464 : decode cL_law 464 = .ok (.ifCond .ne 14, 3) := by decide +kernel
theorem dL_law_467 : decode cL_law 467 = .ok (.aload_n 1, 1) := by decide +kernel
theorem dL_law_468 : decode cL_law 468 = .ok (.iload 10, 2) := by decide +kernel
theorem dL_law_470 : decode cL_law 470 = .ok (.invokevirtual 118, 3) := by decide +kernel
theorem dL_law_473 : decode cL_law 473 = .ok (.ifCond .lt 5, 3) := by decide +kernel
theorem dL_law_476 : decode cL_law 476 = .ok (.iconst 0, 1) := by decide +kernel
theorem dL_law_477 : decode cL_law 477 = .ok (.ireturn, 1) := by decide +kernel
theorem dL_law_478 : decode cL_law 478 = .ok (.iinc 10 1, 3) := by decide +kernel
theorem dL_law_481 : decode cL_law 481 = .ok (.goto (-252), 3) := by decide +kernel
theorem dL_law_484 : decode cL_law 484 = .ok (.aload_n 1, 1) := by decide +kernel
theorem dL_law_485 : decode cL_law 485 = .ok (.invokevirtual 121, 3) := by decide +kernel
theorem dL_law_488 : decode cL_law 488 = .ok (.istore 10, 2) := by decide +kernel
theorem dL_law_490 : decode cL_law 490 = .ok (.iconst 0, 1) := by decide +kernel
theorem dL_law_491 : decode cL_law 491 = .ok (.istore 11, 2) := by decide +kernel
theorem dL_law_493 : decode cL_law 493 = .ok (.iload 11, 2) := by decide +kernel
theorem dL_law_495 : decode cL_law 495 = .ok (.aload_n 1, 1) := by decide +kernel
theorem dL_law_496 : decode cL_law 496 = .ok (.invokevirtual 124, 3) := by decide +kernel
theorem dL_law_499 : decode cL_law 499 = .ok (.if_icmp .ge 304, 3) := by decide +kernel
theorem dL_law_502 : decode cL_law 502 = .ok (.aload_n 1, 1) := by decide +kernel
theorem dL_law_503 : decode cL_law 503 = .ok (.iload 11, 2) := by decide +kernel
theorem dL_law_505 : decode cL_law 505 = .ok (.invokevirtual 127, 3) := by decide +kernel
theorem dL_law_508 : decode cL_law 508 = .ok (.istore 12, 2) := by decide +kernel
theorem dL_law_510 : decode cL_law 510 = .ok (.aload_n 1, 1) := by decide +kernel
theorem dL_law_511 : decode cL_law 511 = .ok (.iload 11, 2) := by decide +kernel
theorem dL_law_513 : decode cL_law 513 = .ok (.invokevirtual 130, 3) := by decide +kernel
theorem dL_law_516 : decode cL_law 516 = .ok (.istore 13, 2) := by decide +kernel
theorem dL_law_518 : decode cL_law 518 = .ok (.iload 12, 2) := by decide +kernel
theorem dL_law_520 : decode cL_law 520 = .ok (.ifCond .lt 131, 3) := by decide +kernel
theorem dL_law_523 : decode cL_law 523 = .ok (.iload 12, 2) := by decide +kernel
theorem dL_law_525 : decode cL_law 525 = .ok (.sipush 999, 3) := by decide +kernel
theorem dL_law_528 : decode cL_law 528 = .ok (.if_icmp .gt 123, 3) := by decide +kernel
theorem dL_law_531 : decode cL_law 531 = .ok (.iload 12, 2) := by decide +kernel
theorem dL_law_533 : decode cL_law 533 = .ok (.aload_n 1, 1) := by decide +kernel
theorem dL_law_534 : decode cL_law 534 = .ok (.iload 10, 2) := by decide +kernel
theorem dL_law_536 : decode cL_law 536 = .ok (.invokevirtual 127, 3) := by decide +kernel
theorem dL_law_539 : decode cL_law 539 = .ok (.if_icmp .gt 112, 3) := by decide +kernel
theorem dL_law_542 : decode cL_law 542 = .ok (.iload 12, 2) := by decide +kernel
theorem dL_law_544 : decode cL_law 544 = .ok (.aload_n 1, 1) := by decide +kernel
theorem dL_law_545 : decode cL_law 545 = .ok (.iload 10, 2) := by decide +kernel
theorem dL_law_547 : decode cL_law 547 = .ok (.invokevirtual 127, 3) := by decide +kernel
theorem dL_law_550 : decode cL_law 550 = .ok (.if_icmp .ne 10, 3) := by decide +kernel
theorem dL_law_553 : decode cL_law 553 = .ok (.iload 11, 2) := by decide +kernel
theorem dL_law_555 : decode cL_law 555 = .ok (.iload 10, 2) := by decide +kernel
theorem dL_law_557 : decode cL_law 557 = .ok (.if_icmp .lt 94, 3) := by decide +kernel
theorem dL_law_560 : decode cL_law 560 = .ok (.iload 13, 2) := by decide +kernel
theorem dL_law_562 : decode cL_law 562 = .ok (.ifCond .ne 8, 3) := by decide +kernel
theorem dL_law_565 : decode cL_law 565 = .ok (.iload 12, 2) := by decide +kernel
theorem dL_law_567 : decode cL_law 567 = .ok (.ifCond .gt 84, 3) := by decide +kernel
theorem dL_law_570 : decode cL_law 570 = .ok (.iload 13, 2) := by decide +kernel
theorem dL_law_572 : decode cL_law 572 = .ok (.ifCond .le 26, 3) := by decide +kernel
theorem dL_law_575 : decode cL_law 575 = .ok (.iload 12, 2) := by decide +kernel
theorem dL_law_577 : decode cL_law 577 = .ok (.ifCond .le 21, 3) := by decide +kernel
theorem dL_law_580 : decode cL_law 580 = .ok (.aload_n 1, 1) := by decide +kernel
theorem dL_law_581 : decode cL_law 581 = .ok (.iload 11, 2) := by decide +kernel
theorem dL_law_583 : decode cL_law 583 = .ok (.iconst 1, 1) := by decide +kernel
theorem dL_law_584 : decode cL_law 584 = .ok (.iload 4, 2) := by decide +kernel
theorem dL_law_586 : decode cL_law 586 = .ok (.iload 12, 2) := by decide +kernel
theorem dL_law_588 : decode cL_law 588 = .ok (.invokestatic 18, 3) := by decide +kernel
theorem dL_law_591 : decode cL_law 591 = .ok (.iadd, 1) := by decide +kernel
theorem dL_law_592 : decode cL_law 592 = .ok (.invokevirtual 133, 3) := by decide +kernel
theorem dL_law_595 : decode cL_law 595 = .ok (.ifCond .eq 56, 3) := by decide +kernel
theorem dL_law_598 : decode cL_law 598 = .ok (.iload 12, 2) := by decide +kernel
theorem dL_law_600 : decode cL_law 600 = .ok (.sipush 999, 3) := by decide +kernel
theorem dL_law_603 : decode cL_law 603 = .ok (.if_icmp .ge 16, 3) := by decide +kernel
theorem dL_law_606 : decode cL_law 606 = .ok (.aload_n 1, 1) := by decide +kernel
theorem dL_law_607 : decode cL_law 607 = .ok (.iload 11, 2) := by decide +kernel
theorem dL_law_609 : decode cL_law 609 = .ok (.iload 12, 2) := by decide +kernel
theorem dL_law_611 : decode cL_law 611 = .ok (.iconst 1, 1) := by decide +kernel
theorem dL_law_612 : decode cL_law 612 = .ok (.iadd, 1) := by decide +kernel
theorem dL_law_613 : decode cL_law 613 = .ok (.invokevirtual 133, 3) := by decide +kernel
theorem dL_law_616 : decode cL_law 616 = .ok (.ifCond .ne 35, 3) := by decide +kernel
theorem dL_law_619 : decode cL_law 619 = .ok (.aload_n 1, 1) := by decide +kernel
theorem dL_law_620 : decode cL_law 620 = .ok (.iload 11, 2) := by decide +kernel
theorem dL_law_622 : decode cL_law 622 = .ok (.iload 8, 2) := by decide +kernel
theorem dL_law_624 : decode cL_law 624 = .ok (.invokevirtual 133, 3) := by decide +kernel
theorem dL_law_627 : decode cL_law 627 = .ok (.iload 13, 2) := by decide +kernel
theorem dL_law_629 : decode cL_law 629 = .ok (.ifCond .le 18, 3) := by decide +kernel
theorem dL_law_632 : decode cL_law 632 = .ok (.aload_n 1, 1) := by decide +kernel
theorem dL_law_633 : decode cL_law 633 = .ok (.iload 11, 2) := by decide +kernel
theorem dL_law_635 : decode cL_law 635 = .ok (.iload 8, 2) := by decide +kernel
theorem dL_law_637 : decode cL_law 637 = .ok (.invokevirtual 137, 3) := by decide +kernel
theorem dL_law_640 : decode cL_law 640 = .ok (.ifCond .ge 7, 3) := by decide +kernel
theorem dL_law_643 : decode cL_law 643 = .ok (.iconst 1, 1) := by decide +kernel
theorem dL_law_644 : decode cL_law 644 = .ok (.goto 4, 3) := by decide +kernel
theorem dL_law_647 : decode cL_law 647 = .ok (.iconst 0, 1) := by decide +kernel
theorem dL_law_648 : decode cL_law 648 = .ok (.if_icmp .eq 5, 3) := by decide +kernel
theorem dL_law_651 : decode cL_law 651 = .ok (.iconst 0, 1) := by decide +kernel
theorem dL_law_652 : decode cL_law 652 = .ok (.ireturn, 1) := by decide +kernel
theorem dL_law_653 : decode cL_law 653 = .ok (.aload_n 1, 1) := by decide +kernel
theorem dL_law_654 : decode cL_law 654 = .ok (.iload 11, 2) := by decide +kernel
theorem dL_law_656 : decode cL_law 656 = .ok (.invokevirtual 140, 3) := by decide +kernel
theorem dL_law_659 : decode cL_law 659 = .ok (.istore 14, 2) := by decide +kernel
theorem dL_law_661 : decode cL_law 661 = .ok (.iload 14, 2) := by decide +kernel
theorem dL_law_663 : decode cL_law 663 = .ok (.ifCond .ge 7, 3) := by decide +kernel
theorem dL_law_666 : decode cL_law 666 = .ok (.iconst 1, 1) := by decide +kernel
theorem dL_law_667 : decode cL_law 667 = .ok (.goto 4, 3) := by decide +kernel
theorem dL_law_670 : decode cL_law 670 = .ok (.iconst 0, 1) := by decide +kernel
theorem dL_law_671 : decode cL_law 671 = .ok (.iload 13, 2) := by decide +kernel
theorem dL_law_673 : decode cL_law 673 = .ok (.ifCond .ne 7, 3) := by decide +kernel
theorem dL_law_676 : decode cL_law 676 = .ok (.iconst 1, 1) := by decide +kernel
theorem dL_law_677 : decode cL_law 677 = .ok (.goto 4, 3) := by decide +kernel
theorem dL_law_680 : decode cL_law 680 = .ok (.iconst 0, 1) := by decide +kernel
theorem dL_law_681 : decode cL_law 681 = .ok (.if_icmp .eq 5, 3) := by decide +kernel
theorem dL_law_684 : decode cL_law 684 = .ok (.iconst 0, 1) := by decide +kernel
theorem dL_law_685 : decode cL_law 685 = .ok (.ireturn, 1) := by decide +kernel
theorem dL_law_686 : decode cL_law 686 = .ok (.iconst 0, 1) := by decide +kernel
theorem dL_law_687 : decode cL_law 687 = .ok (.istore 15, 2) := by decide +kernel
theorem dL_law_689 : decode cL_law 689 = .ok (.iload 15, 2) := by decide +kernel
theorem dL_law_691 : decode cL_law 691 = .ok (.iload 13, 2) := by decide +kernel
theorem dL_law_693 : decode cL_law 693 = .ok (.if_icmp .ge 104, 3) := by decide +kernel
theorem dL_law_696 : decode cL_law 696 = .ok (.aload_n 1, 1) := by decide +kernel
theorem dL_law_697 : decode cL_law 697 = .ok (.iload 11, 2) := by decide +kernel
theorem dL_law_699 : decode cL_law 699 = .ok (.iload 15, 2) := by decide +kernel
theorem dL_law_701 : decode cL_law 701 = .ok (.invokevirtual 143, 3) := by decide +kernel
theorem dL_law_704 : decode cL_law 704 = .ok (.aload_n 2, 1) := by decide +kernel
theorem dL_law_705 : decode cL_law 705 = .ok (.getfield 15, 3) := by decide +kernel
theorem dL_law_708 : decode cL_law 708 = .ok (.iload 11, 2) := by decide +kernel
theorem dL_law_710 : decode cL_law 710 = .ok (.aaload, 1) := by decide +kernel
theorem dL_law_711 : decode cL_law 711 = .ok (.iload 15, 2) := by decide +kernel
theorem dL_law_713 : decode cL_law 713 = .ok (.iaload, 1) := by decide +kernel
theorem dL_law_714 : decode cL_law 714 = .ok (.if_icmp .gt 75, 3) := by decide +kernel
theorem dL_law_717 : decode cL_law 717 = .ok (.iload 15, 2) := by decide +kernel
theorem dL_law_719 : decode cL_law 719 = .ok (.ifCond .le 26, 3) := by decide +kernel
theorem dL_law_722 : decode cL_law 722 = .ok (.aload_n 1, 1) := by decide +kernel
theorem dL_law_723 : decode cL_law 723 = .ok (.iload 11, 2) := by decide +kernel
theorem dL_law_725 : decode cL_law 725 = .ok (.iload 15, 2) := by decide +kernel
theorem dL_law_727 : decode cL_law 727 = .ok (.invokevirtual 143, 3) := by decide +kernel
theorem dL_law_730 : decode cL_law 730 = .ok (.aload_n 2, 1) := by decide +kernel
theorem dL_law_731 : decode cL_law 731 = .ok (.getfield 15, 3) := by decide +kernel
theorem dL_law_734 : decode cL_law 734 = .ok (.iload 11, 2) := by decide +kernel
theorem dL_law_736 : decode cL_law 736 = .ok (.aaload, 1) := by decide +kernel
theorem dL_law_737 : decode cL_law 737 = .ok (.iload 15, 2) := by decide +kernel
theorem dL_law_739 : decode cL_law 739 = .ok (.iconst 1, 1) := by decide +kernel
theorem dL_law_740 : decode cL_law 740 = .ok (.isub, 1) := by decide +kernel
theorem dL_law_741 : decode cL_law 741 = .ok (.iaload, 1) := by decide +kernel
theorem dL_law_742 : decode cL_law 742 = .ok (.if_icmp .gt 47, 3) := by decide +kernel
theorem dL_law_745 : decode cL_law 745 = .ok (.aload_n 1, 1) := by decide +kernel
theorem dL_law_746 : decode cL_law 746 = .ok (.iload 11, 2) := by decide +kernel
theorem dL_law_748 : decode cL_law 748 = .ok (.iload 15, 2) := by decide +kernel
theorem dL_law_750 : decode cL_law 750 = .ok (.invokevirtual 143, 3) := by decide +kernel
theorem dL_law_753 : decode cL_law 753 = .ok (.aload_n 1, 1) := by decide +kernel
theorem dL_law_754 : decode cL_law 754 = .ok (.iload 11, 2) := by decide +kernel
theorem dL_law_756 : decode cL_law 756 = .ok (.iload 14, 2) := by decide +kernel
theorem dL_law_758 : decode cL_law 758 = .ok (.invokevirtual 143, 3) := by decide +kernel
theorem dL_law_761 : decode cL_law 761 = .ok (.if_icmp .lt 28, 3) := by decide +kernel
theorem dL_law_764 : decode cL_law 764 = .ok (.aload_n 1, 1) := by decide +kernel
theorem dL_law_765 : decode cL_law 765 = .ok (.aload_n 1, 1) := by decide +kernel
theorem dL_law_766 : decode cL_law 766 = .ok (.iload 11, 2) := by decide +kernel
theorem dL_law_768 : decode cL_law 768 = .ok (.iload 15, 2) := by decide +kernel
theorem dL_law_770 : decode cL_law 770 = .ok (.invokevirtual 146, 3) := by decide +kernel
theorem dL_law_773 : decode cL_law 773 = .ok (.invokevirtual 92, 3) := by decide +kernel
theorem dL_law_776 : decode cL_law 776 = .ok (.iload 15, 2) := by decide +kernel
theorem dL_law_778 : decode cL_law 778 = .ok (.ifCond .ne 7, 3) := by decide +kernel
theorem dL_law_781 : decode cL_law 781 = .ok (.iconst 1, 1) := by decide +kernel
theorem dL_law_782 : decode cL_law 782 = .ok (.goto 4, 3) := by decide +kernel
theorem dL_law_785 : decode cL_law 785 = .ok (.iconst 0, 1) := by decide +kernel
theorem dL_law_786 : decode cL_law 786 = .ok (.if_icmp .eq 5, 3) := by decide +kernel
theorem dL_law_789 : decode cL_law 789 = .ok (.iconst 0, 1) := by decide +kernel
theorem dL_law_790 : decode cL_law 790 = .ok (.ireturn, 1) := by decide +kernel
theorem dL_law_791 : decode cL_law 791 = .ok (.iinc 15 1, 3) := by decide +kernel
theorem dL_law_794 : decode cL_law 794 = .ok (.goto (-105), 3) := by decide +kernel
theorem dL_law_797 : decode cL_law 797 = .ok (.iinc 11 1, 3) := by decide +kernel
theorem dL_law_800 : decode cL_law 800 = .ok (.goto (-307), 3) := by decide +kernel
theorem dL_law_803 : decode cL_law 803 = .ok (.aload_n 1, 1) := by decide +kernel
theorem dL_law_804 : decode cL_law 804 = .ok (.invokevirtual 78, 3) := by decide +kernel
theorem dL_law_807 : decode cL_law 807 = .ok (.lload 5, 2) := by decide +kernel
theorem dL_law_809 : decode cL_law 809 = .ok (.lcmp, 1) := by decide +kernel
theorem dL_law_810 : decode cL_law 810 = .ok (.ifCond .eq 5, 3) := by decide +kernel
theorem dL_law_813 : decode cL_law 813 = .ok (.iconst 0, 1) := by decide +kernel
theorem dL_law_814 : decode cL_law 814 = .ok (.ireturn, 1) := by decide +kernel
theorem dL_law_815 : decode cL_law 815 = .ok (.iload 4, 2) := by decide +kernel
theorem dL_law_817 : decode cL_law 817 = .ok (.iconst 4, 1) := by decide +kernel
theorem dL_law_818 : decode cL_law 818 = .ok (.ishr, 1) := by decide +kernel
theorem dL_law_819 : decode cL_law 819 = .ok (.aload_n 1, 1) := by decide +kernel
theorem dL_law_820 : decode cL_law 820 = .ok (.invokevirtual 124, 3) := by decide +kernel
theorem dL_law_823 : decode cL_law 823 = .ok (.invokestatic 18, 3) := by decide +kernel
theorem dL_law_826 : decode cL_law 826 = .ok (.istore 11, 2) := by decide +kernel
theorem dL_law_828 : decode cL_law 828 = .ok (.aload_n 1, 1) := by decide +kernel
theorem dL_law_829 : decode cL_law 829 = .ok (.iload 11, 2) := by decide +kernel
theorem dL_law_831 : decode cL_law 831 = .ok (.invokevirtual 130, 3) := by decide +kernel
theorem dL_law_834 : decode cL_law 834 = .ok (.istore 12, 2) := by decide +kernel
theorem dL_law_836 : decode cL_law 836 = .ok (.iload 12, 2) := by decide +kernel
theorem dL_law_838 : decode cL_law 838 = .ok (.ifCond .ne 6, 3) := by decide +kernel
theorem dL_law_841 : decode cL_law 841 = .ok (.goto 323, 3) := by decide +kernel
theorem dL_law_844 : decode cL_law 844 = .ok (.iload 4, 2) := by decide +kernel
theorem dL_law_846 : decode cL_law 846 = .ok (.bipush 6, 2) := by decide +kernel
theorem dL_law_848 : decode cL_law 848 = .ok (.ishr, 1) := by decide +kernel
theorem dL_law_849 : decode cL_law 849 = .ok (.iload 12, 2) := by decide +kernel
theorem dL_law_851 : decode cL_law 851 = .ok (.invokestatic 18, 3) := by decide +kernel
theorem dL_law_854 : decode cL_law 854 = .ok (.istore 13, 2) := by decide +kernel
theorem dL_law_856 : decode cL_law 856 = .ok (.aload_n 1, 1) := by decide +kernel
theorem dL_law_857 : decode cL_law 857 = .ok (.iload 11, 2) := by decide +kernel
theorem dL_law_859 : decode cL_law 859 = .ok (.iload 13, 2) := by decide +kernel
theorem dL_law_861 : decode cL_law 861 = .ok (.invokevirtual 149, 3) := by decide +kernel
theorem dL_law_864 : decode cL_law 864 = .ok (.istore 14, 2) := by decide +kernel
theorem dL_law_866 : decode cL_law 866 = .ok (.aload_n 1, 1) := by decide +kernel
theorem dL_law_867 : decode cL_law 867 = .ok (.iload 13, 2) := by decide +kernel
theorem dL_law_869 : decode cL_law 869 = .ok (.ifCond .ne 7, 3) := by decide +kernel
theorem dL_law_872 : decode cL_law 872 = .ok (.iconst 1, 1) := by decide +kernel
theorem dL_law_873 : decode cL_law 873 = .ok (.goto 4, 3) := by decide +kernel
theorem dL_law_876 : decode cL_law 876 = .ok (.iconst 0, 1) := by decide +kernel
theorem dL_law_877 : decode cL_law 877 = .ok (.iload 4, 2) := by decide +kernel
theorem dL_law_879 : decode cL_law 879 = .ok (.bipush 7, 2) := by decide +kernel
theorem dL_law_881 : decode cL_law 881 = .ok (.ishr, 1) := by decide +kernel
theorem dL_law_882 : decode cL_law 882 = .ok (.aload_n 1, 1) := by decide +kernel
theorem dL_law_883 : decode cL_law 883 = .ok (.iload 13, 2) := by decide +kernel
theorem dL_law_885 : decode cL_law 885 = .ok (.ifCond .ne 7, 3) := by decide +kernel
theorem dL_law_888 : decode cL_law 888 = .ok (.iconst 1, 1) := by decide +kernel
theorem dL_law_889 : decode cL_law 889 = .ok (.goto 4, 3) := by decide +kernel
theorem dL_law_892 : decode cL_law 892 = .ok (.iconst 0, 1) := by decide +kernel
theorem dL_law_893 : decode cL_law 893 = .ok (.invokevirtual 85, 3) := by decide +kernel
theorem dL_law_896 : decode cL_law 896 = .ok (.invokestatic 18, 3) := by decide +kernel
theorem dL_law_899 : decode cL_law 899 = .ok (.invokevirtual 89, 3) := by decide +kernel
theorem dL_law_902 : decode cL_law 902 = .ok (.istore 15, 2) := by decide +kernel
theorem dL_law_904 : decode cL_law 904 = .ok (.aload_n 1, 1) := by decide +kernel
theorem dL_law_905 : decode cL_law 905 = .ok (.iload 11, 2) := by decide +kernel
theorem dL_law_907 : decode cL_law 907 = .ok (.iload 13, 2) := by decide +kernel
theorem dL_law_909 : decode cL_law 909 = .ok (.iload 14, 2) := by decide +kernel
theorem dL_law_911 : decode cL_law 911 = .ok (.invokevirtual 50, 3) := by decide +kernel
theorem dL_law_914 : decode cL_law 914 = .ok (.istore 16, 2) := by decide +kernel
theorem dL_law_916 : decode cL_law 916 = .ok (.aload_n 1, 1) := by decide +kernel
theorem dL_law_917 : decode cL_law 917 = .ok (.iload 11, 2) := by decide +kernel
theorem dL_law_919 : decode cL_law 919 = .ok (.invokevirtual 127, 3) := by decide +kernel
theorem dL_law_922 : decode cL_law 922 = .ok (.istore 17, 2) := by decide +kernel
theorem dL_law_924 : decode cL_law 924 = .ok (.aload_n 1, 1) := by decide +kernel
theorem dL_law_925 : decode cL_law 925 = .ok (.iload 11, 2) := by decide +kernel
theorem dL_law_927 : decode cL_law 927 = .ok (.iload 13, 2) := by decide +kernel
theorem dL_law_929 : decode cL_law 929 = .ok (.iload 15, 2) := by decide +kernel
theorem dL_law_931 : decode cL_law 931 = .ok (.invokevirtual 50, 3) := by decide +kernel
theorem dL_law_934 : decode cL_law 934 = .ok (.iload 14, 2) := by decide +kernel
theorem dL_law_936 : decode cL_law 936 = .ok (.if_icmp .ne 65, 3) := by decide +kernel
theorem dL_law_939 : decode cL_law 939 = .ok (.aload_n 1, 1) := by decide +kernel
theorem dL_law_940 : decode cL_law 940 = .ok (.iload 11, 2) := by decide +kernel
theorem dL_law_942 : decode cL_law 942 = .ok (.invokevirtual 127, 3) := by decide +kernel
theorem dL_law_945 : decode cL_law 945 = .ok (.iload 17, 2) := by decide +kernel
theorem dL_law_947 : decode cL_law 947 = .ok (.if_icmp .gt 54, 3) := by decide +kernel
theorem dL_law_950 : decode cL_law 950 = .ok (.aload_n 1, 1) := by decide +kernel
theorem dL_law_951 : decode cL_law 951 = .ok (.iload 11, 2) := by decide +kernel
theorem dL_law_953 : decode cL_law 953 = .ok (.invokevirtual 127, 3) := by decide +kernel
theorem dL_law_956 : decode cL_law 956 = .ok (.iload 17, 2) := by decide +kernel
theorem dL_law_958 : decode cL_law 958 = .ok (.if_icmp .ne 18, 3) := by decide +kernel
theorem dL_law_961 : decode cL_law 961 = .ok (.aload_n 1, 1) := by decide +kernel
theorem dL_law_962 : decode cL_law 962 = .ok (.iload 15, 2) := by decide +kernel
theorem dL_law_964 : decode cL_law 964 = .ok (.invokevirtual 95, 3) := by decide +kernel
theorem dL_law_967 : decode cL_law 967 = .ok (.aload_n 1, 1) := by decide +kernel
theorem dL_law_968 : decode cL_law 968 = .ok (.iload 14, 2) := by decide +kernel
theorem dL_law_970 : decode cL_law 970 = .ok (.invokevirtual 95, 3) := by decide +kernel
theorem dL_law_973 : decode cL_law 973 = .ok (.if_icmp .lt 28, 3) := by decide +kernel
theorem dL_law_976 : decode cL_law 976 = .ok (.aload_n 1, 1) := by decide +kernel
theorem dL_law_977 : decode cL_law 977 = .ok (.iload 11, 2) := by decide +kernel
theorem dL_law_979 : decode cL_law 979 = .ok (.iload 13, 2) := by decide +kernel
theorem dL_law_981 : decode cL_law 981 = .ok (.iload 16, 2) := by decide +kernel
theorem dL_law_983 : decode cL_law 983 = .ok (.invokevirtual 50, 3) := by decide +kernel
theorem dL_law_986 : decode cL_law 986 = .ok (.iload 15, 2) := by decide +kernel
theorem dL_law_988 : decode cL_law 988 = .ok (.if_icmp .ne 13, 3) := by decide +kernel
theorem dL_law_991 : decode cL_law 991 = .ok (.aload_n 1, 1) := by decide +kernel
theorem dL_law_992 : decode cL_law 992 = .ok (.invokevirtual 78, 3) := by decide +kernel
theorem dL_law_995 : decode cL_law 995 = .ok (.lload 5, 2) := by decide +kernel
theorem dL_law_997 : decode cL_law 997 = .ok (.lcmp, 1) := by decide +kernel
theorem dL_law_998 : decode cL_law 998 = .ok (.ifCond .eq 5, 3) := by decide +kernel
theorem dL_law_1001 : decode cL_law 1001 = .ok (.iconst 0, 1) := by decide +kernel
theorem dL_law_1002 : decode cL_law 1002 = .ok (.ireturn, 1) := by decide +kernel
theorem dL_law_1003 : decode cL_law 1003 = .ok (.iconst 1, 1) := by decide +kernel
theorem dL_law_1004 : decode cL_law 1004 = .ok (.iload 8, 2) := by decide +kernel
theorem dL_law_1006 : decode cL_law 1006 = .ok (.iconst 1, 1) := by decide +kernel
theorem dL_law_1007 : decode cL_law 1007 = .ok (.isub, 1) := by decide +kernel
theorem dL_law_1008 : decode cL_law 1008 = .ok (.iconst 1, 1) := by decide +kernel
theorem dL_law_1009 : decode cL_law 1009 = .ok (.iload 4, 2) := by decide +kernel
theorem dL_law_1011 : decode cL_law 1011 = .ok (.bipush 8, 2) := by decide +kernel
theorem dL_law_1013 : decode cL_law 1013 = .ok (.ishr, 1) := by decide +kernel
theorem dL_law_1014 : decode cL_law 1014 = .ok (.bipush 6, 2) := by decide +kernel
theorem dL_law_1016 : decode cL_law 1016 = .ok (.invokestatic 18, 3) := by decide +kernel
theorem dL_law_1019 : decode cL_law 1019 = .ok (.iadd, 1) := by decide +kernel
theorem dL_law_1020 : decode cL_law 1020 = .ok (.idiv, 1) := by decide +kernel
theorem dL_law_1021 : decode cL_law 1021 = .ok (.iadd, 1) := by decide +kernel
theorem dL_law_1022 : decode cL_law 1022 = .ok (.istore 18, 2) := by decide +kernel
theorem dL_law_1024 : decode cL_law 1024 = .ok (.aload_n 1, 1) := by decide +kernel
theorem dL_law_1025 : decode cL_law 1025 = .ok (.iload 11, 2) := by decide +kernel
theorem dL_law_1027 : decode cL_law 1027 = .ok (.iload 18, 2) := by decide +kernel
theorem dL_law_1029 : decode cL_law 1029 = .ok (.invokevirtual 137, 3) := by decide +kernel
theorem dL_law_1032 : decode cL_law 1032 = .ok (.istore 19, 2) := by decide +kernel
theorem dL_law_1034 : decode cL_law 1034 = .ok (.aload_n 1, 1) := by decide +kernel
theorem dL_law_1035 : decode cL_law 1035 = .ok (.iload 11, 2) := by decide +kernel
theorem dL_law_1037 : decode cL_law 1037 = .ok (.iload 18, 2) := by decide +kernel
theorem dL_law_1039 : decode cL_law 1039 = .ok (.invokevirtual 60, 3) := by decide +kernel
theorem dL_law_1042 : decode cL_law 1042 = .ok (.iload 19, 2) := by decide +kernel
theorem dL_law_1044 : decode cL_law 1044 = .ok (.if_icmp .ne 24, 3) := by decide +kernel
theorem dL_law_1047 : decode cL_law 1047 = .ok (.aload_n 1, 1) := by decide +kernel
theorem dL_law_1048 : decode cL_law 1048 = .ok (.iload 11, 2) := by decide +kernel
theorem dL_law_1050 : decode cL_law 1050 = .ok (.invokevirtual 130, 3) := by decide +kernel
theorem dL_law_1053 : decode cL_law 1053 = .ok (.iload 19, 2) := by decide +kernel
theorem dL_law_1055 : decode cL_law 1055 = .ok (.ifCond .ge 8, 3) := by decide +kernel
theorem dL_law_1058 : decode cL_law 1058 = .ok (.iload 12, 2) := by decide +kernel
theorem dL_law_1060 : decode cL_law 1060 = .ok (.goto 5, 3) := by decide +kernel
theorem dL_law_1063 : decode cL_law 1063 = .ok (.iload 19, 2) := by decide +kernel
theorem dL_law_1065 : decode cL_law 1065 = .ok (.if_icmp .eq 5, 3) := by decide +kernel
theorem dL_law_1068 : decode cL_law 1068 = .ok (.iconst 0, 1) := by decide +kernel
theorem dL_law_1069 : decode cL_law 1069 = .ok (.ireturn, 1) := by decide +kernel
theorem dL_law_1070 : decode cL_law 1070 = .ok (.aload_n 2, 1) := by decide +kernel
theorem dL_law_1071 : decode cL_law 1071 = .ok (.iload 11, 2) := by decide +kernel
theorem dL_law_1073 : decode cL_law 1073 = .ok (.iload 18, 2) := by decide +kernel
theorem dL_law_1075 : decode cL_law 1075 = .ok (.invokevirtual 56, 3) := by decide +kernel
theorem dL_law_1078 : decode cL_law 1078 = .ok (.iconst 0, 1) := by decide +kernel
theorem dL_law_1079 : decode cL_law 1079 = .ok (.istore 20, 2) := by decide +kernel
theorem dL_law_1081 : decode cL_law 1081 = .ok (.iload 20, 2) := by decide +kernel
theorem dL_law_1083 : decode cL_law 1083 = .ok (.aload_n 1, 1) := by decide +kernel
theorem dL_law_1084 : decode cL_law 1084 = .ok (.iload 11, 2) := by decide +kernel
theorem dL_law_1086 : decode cL_law 1086 = .ok (.invokevirtual 130, 3) := by decide +kernel
theorem dL_law_1089 : decode cL_law 1089 = .ok (.if_icmp .ge 36, 3) := by decide +kernel
theorem dL_law_1092 : decode cL_law 1092 = .ok (.aload_n 1, 1) := by decide +kernel
theorem dL_law_1093 : decode cL_law 1093 = .ok (.aload_n 1, 1) := by decide +kernel
theorem dL_law_1094 : decode cL_law 1094 = .ok (.iload 11, 2) := by decide +kernel
theorem dL_law_1096 : decode cL_law 1096 = .ok (.iload 20, 2) := by decide +kernel
theorem dL_law_1098 : decode cL_law 1098 = .ok (.invokevirtual 146, 3) := by decide +kernel
theorem dL_law_1101 : decode cL_law 1101 = .ok (.iload 18, 2) := by decide +kernel
theorem dL_law_1103 : decode cL_law 1103 = .ok (.invokevirtual 106, 3) := by decide +kernel
theorem dL_law_1106 : decode cL_law 1106 = .ok (.aload_n 1, 1) := by decide +kernel
theorem dL_law_1107 : decode cL_law 1107 = .ok (.iload 11, 2) := by decide +kernel
theorem dL_law_1109 : decode cL_law 1109 = .ok (.iload 20, 2) := by decide +kernel
theorem dL_law_1111 : decode cL_law 1111 = .ok (.invokevirtual 146, 3) := by decide +kernel
theorem dL_law_1114 : decode cL_law 1114 = .ok (.if_icmp .eq 5, 3) := by decide +kernel
theorem dL_law_1117 : decode cL_law 1117 = .ok (.iconst 0, 1) := by decide +kernel
theorem dL_law_1118 : decode cL_law 1118 = .ok (.ireturn, 1) := by decide +kernel
theorem dL_law_1119 : decode cL_law 1119 = .ok (.iinc 20 1, 3) := by decide +kernel
theorem dL_law_1122 : decode cL_law 1122 = .ok (.goto (-41), 3) := by decide +kernel
theorem dL_law_1125 : decode cL_law 1125 = .ok (.aload_n 1, 1) := by decide +kernel
theorem dL_law_1126 : decode cL_law 1126 = .ok (.invokevirtual 78, 3) := by decide +kernel
theorem dL_law_1129 : decode cL_law 1129 = .ok (.lstore 20, 2) := by decide +kernel
theorem dL_law_1131 : decode cL_law 1131 = .ok (.aload_n 1, 1) := by decide +kernel
theorem dL_law_1132 : decode cL_law 1132 = .ok (.iload 11, 2) := by decide +kernel
theorem dL_law_1134 : decode cL_law 1134 = .ok (.invokevirtual 130, 3) := by decide +kernel
theorem dL_law_1137 : decode cL_law 1137 = .ok (.ifCond .le 27, 3) := by decide +kernel
theorem dL_law_1140 : decode cL_law 1140 = .ok (.aload_n 1, 1) := by decide +kernel
theorem dL_law_1141 : decode cL_law 1141 = .ok (.iload 11, 2) := by decide +kernel
theorem dL_law_1143 : decode cL_law 1143 = .ok (.iload 18, 2) := by decide +kernel
theorem dL_law_1145 : decode cL_law 1145 = .ok (.invokevirtual 60, 3) := by decide +kernel
theorem dL_law_1148 : decode cL_law 1148 = .ok (.iconst (-1), 1) := by decide +kernel
theorem dL_law_1149 : decode cL_law 1149 = .ok (.if_icmp .ne 13, 3) := by decide +kernel
theorem dL_law_1152 : decode cL_law 1152 = .ok (.aload_n 1, 1) := by decide +kernel
theorem dL_law_1153 : decode cL_law 1153 = .ok (.invokevirtual 78, 3) := by decide +kernel
theorem dL_law_1156 : decode cL_law 1156 = .ok (.lload 20, 2) := by decide +kernel
theorem dL_law_1158 : decode cL_law 1158 = .ok (.lcmp, 1) := by decide +kernel
theorem dL_law_1159 : decode cL_law 1159 = .ok (.ifCond .eq 5, 3) := by decide +kernel
theorem dL_law_1162 : decode cL_law 1162 = .ok (.iconst 0, 1) := by decide +kernel
theorem dL_law_1163 : decode cL_law 1163 = .ok (.ireturn, 1) := by decide +kernel
theorem dL_law_1164 : decode cL_law 1164 = .ok (.iinc 3 1, 3) := by decide +kernel
theorem dL_law_1167 : decode cL_law 1167 = .ok (.goto (-1145), 3) := by decide +kernel
theorem dL_law_1170 : decode cL_law 1170 = .ok (.aload_n 2, 1) := by decide +kernel
theorem dL_law_1171 : decode cL_law 1171 = .ok (.aload_n 1, 1) := by decide +kernel
theorem dL_law_1172 : decode cL_law 1172 = .ok (.invokevirtual 152, 3) := by decide +kernel
theorem dL_law_1175 : decode cL_law 1175 = .ok (.ireturn, 1) := by decide +kernel
end
section
/-! worlds of any length: rows in any number, calls in a part of them, arrays of rows -/
theorem kr_pm {D : va_G} {cl : List vw_C} {ws : va_W} {H : Heap} : va_P D cl ws H ↔ ∀ q ∈ ws, va_at D cl q H := ⟨fun h q hq => by obtain ⟨k, hk⟩ := List.getElem?_of_mem hq; exact h k q hk, fun h k q hk => h q (List.mem_of_getElem? hk)⟩
theorem kr_dm {A : Nat → Prop} {ws : va_W} : va_D A ws ↔ (ws.map (fun q => q.1)).Nodup ∧ ∀ q ∈ ws, A q.1 := by
  constructor
  · intro h
    refine ⟨?_, fun q hq => ?_⟩
    · rw [List.nodup_iff_pairwise_ne, List.pairwise_iff_getElem]
      intro i j hi hj hij e
      rw [List.length_map] at hi hj
      rw [List.getElem_map, List.getElem_map] at e
      have := h.1 i j ws[i] ws[j] (List.getElem?_eq_getElem hi) (List.getElem?_eq_getElem hj) e
      omega
    · obtain ⟨k, hk⟩ := List.getElem?_of_mem hq
      exact h.2 k q hk
  · rintro ⟨h1, h2⟩
    refine ⟨fun i j p q hp hq e => ?_, fun k q hk => h2 q (List.mem_of_getElem? hk)⟩
    have hi : i < (ws.map (fun q => q.1)).length := by rw [List.length_map]; exact (List.getElem?_eq_some_iff.mp hp).1
    refine (List.getElem?_inj hi h1).mp ?_
    rw [List.getElem?_map, List.getElem?_map, hp, hq]
    exact congrArg some e
theorem kr_Pof {D : va_G} {cl : List vw_C} {ws ws' : va_W} {H : Heap} (h : va_P D cl ws H) (hs : ∀ q ∈ ws', q ∈ ws) : va_P D cl ws' H := kr_pm.mpr (fun q hq => kr_pm.mp h q (hs q hq))
theorem kr_Dsub {A : Nat → Prop} {ws ws' : va_W} (h : va_D A ws) (hs : ws'.Sublist ws) : va_D A ws' := kr_dm.mpr ⟨(kr_dm.mp h).1.sublist (hs.map _), fun q hq => (kr_dm.mp h).2 q (hs.subset hq)⟩
theorem kr_Dperm {A : Nat → Prop} {ws ws' : va_W} (h : va_D A ws) (hs : ws.Perm ws') : va_D A ws' := kr_dm.mpr ⟨(kr_dm.mp h).1.perm (hs.map _), fun q hq => (kr_dm.mp h).2 q (hs.mem_iff.mpr hq)⟩
theorem kr_Dadr {A : Nat → Prop} {ws ws' : va_W} (h : va_D A ws) (hs : ws'.map (fun q => q.1) = ws.map (fun q => q.1)) : va_D A ws' := by
  refine kr_dm.mpr ⟨by rw [hs]; exact (kr_dm.mp h).1, fun q hq => ?_⟩
  have h1 : q.1 ∈ ws.map (fun q => q.1) := by rw [← hs]; exact List.mem_map.mpr ⟨q, hq, rfl⟩
  obtain ⟨q0, h2, h3⟩ := List.mem_map.mp h1
  rw [← h3]; exact (kr_dm.mp h).2 q0 h2
theorem kr_Pl {D : va_G} {cl : List vw_C} {a b : va_W} {H : Heap} (h : va_P D cl (a ++ b) H) : va_P D cl a H := kr_Pof h (fun _ hq => List.mem_append_left _ hq)
theorem kr_Pr {D : va_G} {cl : List vw_C} {a b : va_W} {H : Heap} (h : va_P D cl (a ++ b) H) : va_P D cl b H := kr_Pof h (fun _ hq => List.mem_append_right _ hq)
theorem kr_Dl {A : Nat → Prop} {a b : va_W} (h : va_D A (a ++ b)) : va_D A a := kr_Dsub h (List.sublist_append_left a b)
theorem kr_Dr {A : Nat → Prop} {a b : va_W} (h : va_D A (a ++ b)) : va_D A b := kr_Dsub h (List.sublist_append_right a b)
theorem kr_Pc {D : va_G} {cl : List vw_C} {a b : va_W} {H : Heap} (h : va_P D cl (a ++ b) H) : va_P D cl (b ++ a) H := kr_Pof h (fun _ hq => (List.mem_append.mp hq).elim (fun h => List.mem_append_right _ h) (fun h => List.mem_append_left _ h))
theorem kr_Dc {A : Nat → Prop} {a b : va_W} (h : va_D A (a ++ b)) : va_D A (b ++ a) := kr_Dperm h List.perm_append_comm
/-- the last one takes another's place -/
theorem kr_swG {ws : va_W} {x : Nat × va_E} {i : Nat} (hi : i < ws.length) (k : Nat) (q : Nat × va_E) (hk : (ws.set i x)[k]? = some q) : (ws ++ [x])[if k = i then ws.length else k]? = some q := by
  by_cases e : k = i
  · subst e
    rw [List.getElem?_set_self hi] at hk
    rw [if_pos rfl, List.getElem?_append_right (Nat.le_refl _), Nat.sub_self]
    exact hk
  · rw [List.getElem?_set_ne (Ne.symm e)] at hk
    rw [if_neg e, List.getElem?_append_left (List.getElem?_eq_some_iff.mp hk).1]
    exact hk
theorem kr_swP {D : va_G} {cl : List vw_C} {ws : va_W} {x : Nat × va_E} {i : Nat} {H : Heap} (h : va_P D cl (ws ++ [x]) H) (hi : i < ws.length) : va_P D cl (ws.set i x) H := h.by _ (kr_swG hi)
theorem kr_swD {A : Nat → Prop} {ws : va_W} {x : Nat × va_E} {i : Nat} (h : va_D A (ws ++ [x])) (hi : i < ws.length) : va_D A (ws.set i x) := by
  refine h.by _ (kr_swG hi) (fun a b ha hb e => ?_)
  rw [List.length_set] at ha hb
  by_cases h1 : a = i <;> by_cases h2 : b = i <;> simp only [h1, h2, if_true, if_false] at e <;> omega
theorem kr_jn2 {A0 : Nat → Prop} {D : va_G} {cl : List vw_C} {wc wr w1 : va_W} {H H1 : Heap} (hP : va_P D cl (wc ++ wr) H) (hD : va_D A0 (wc ++ wr)) (hk : ∀ q : Nat, q < H.size → ¬ va_A wc H.size q → H1[q]? = H[q]?) (hF : ∀ q, va_A wc H.size q → A0 q) (hP1 : va_P D cl w1 H1) (hD1 : va_D (va_A wc H.size) w1) : va_P D cl (w1 ++ wr) H1 ∧ va_D A0 (w1 ++ wr) := by
  have apart : ∀ (k : Nat) (q : Nat × va_E), wr[k]? = some q → q.1 < H.size ∧ ¬ va_A wc H.size q.1 := by
    intro k q hq
    have h1 : (wc ++ wr)[wc.length + k]? = some q := by rw [List.getElem?_append_right (by omega), Nat.add_sub_cancel_left]; exact hq
    have hl := (hP _ q h1).lt
    refine ⟨hl, fun h => ?_⟩
    rcases h with ⟨k2, e, h⟩ | h
    · have h2 := (List.getElem?_eq_some_iff.mp h).1
      have h3 : (wc ++ wr)[k2]? = some (q.1, e) := by rw [List.getElem?_append_left h2]; exact h
      have := hD.1 _ _ q (q.1, e) h1 h3 rfl
      omega
    · omega
  refine ⟨va_P.app hP1 (fun k q hq => ?_), va_D.app (hD1.weaken (fun k q _ h => hF q.1 h)) (kr_Dr hD) (fun i j x y hx hy hxy => ?_)⟩
  · obtain ⟨g1, g2⟩ := apart k q hq
    exact (kr_Pr hP k q hq).kept (hk q.1 g1 g2)
  · exact (apart j y hy).2 (by rw [← hxy]; exact hD1.2 i x hx)
theorem kr_fr2 {A0 : Nat → Prop} {wc wr : va_W} {H0 H : Heap} {locs : List Loc} (hD : va_D A0 (wc ++ wr)) (hS : va_S A0 H0 H locs) (hA : ∀ q : Nat, H0.size ≤ q → A0 q) : ∀ q, va_A wc H.size q → A0 q := by
  intro q h
  rcases h with ⟨k, e, h⟩ | h
  · exact (kr_Dl hD).2 k (q, e) h
  · exact hA q (Nat.le_trans hS.1 h)
theorem kr_frN {A0 : Nat → Prop} {H0 H : Heap} {locs : List Loc} (hS : va_S A0 H0 H locs) (hA : ∀ q : Nat, H0.size ≤ q → A0 q) : ∀ q, va_A [] H.size q → A0 q := by
  intro q h
  rcases h with ⟨k, e, h⟩ | h
  · exact absurd h (by simp)
  · exact hA q (Nat.le_trans hS.1 h)
theorem kr_nA {sz q : Nat} (h : ¬ sz ≤ q) : ¬ va_A [] sz q := by
  rintro (⟨k, e, h1⟩ | h1)
  · simp at h1
  · exact h h1
theorem kr_nA2 {sz q : Nat} (h : sz ≤ q) : va_A [] sz q := Or.inr h
/-- what a call that only makes cells leaves -/
theorem kr_kpN {D : va_G} {cl : List vw_C} {ws : va_W} {H H1 : Heap} (hP : va_P D cl ws H) (hk : ∀ q : Nat, q < H.size → ¬ va_A [] H.size q → H1[q]? = H[q]?) : va_P D cl ws H1 := hP.kept (fun k q hq => hk q.1 (hP k q hq).lt (kr_nA (Nat.not_le.mpr (hP k q hq).lt)))
theorem kr_jnN {A0 : Nat → Prop} {D : va_G} {cl : List vw_C} {ws w1 : va_W} {H H1 : Heap} (hP : va_P D cl ws H) (hD : va_D A0 ws) (hk : ∀ q : Nat, q < H.size → ¬ va_A [] H.size q → H1[q]? = H[q]?) (hF : ∀ q, va_A [] H.size q → A0 q) (hP1 : va_P D cl w1 H1) (hD1 : va_D (va_A [] H.size) w1) : va_P D cl (ws ++ w1) H1 ∧ va_D A0 (ws ++ w1) := by
  obtain ⟨h1, h2⟩ := kr_jn2 (wc := []) (wr := ws) hP hD hk hF hP1 hD1
  exact ⟨kr_Pc h1, kr_Dc h2⟩
theorem kr_gl {ws t : va_W} {i : Nat} {x : Nat × va_E} (h : ws[i]? = some x) : (ws ++ t)[i]? = some x := by
  rw [List.getElem?_append_left (List.getElem?_eq_some_iff.mp h).1]; exact h
theorem kr_gr {ws t : va_W} {i : Nat} {x : Nat × va_E} (h : t[i]? = some x) : (ws ++ t)[ws.length + i]? = some x := by
  rw [List.getElem?_append_right (by omega), Nat.add_sub_cancel_left]; exact h
/-- the same cell, its content said otherwise -/
theorem kr_cgI {D : va_G} {cl : List vw_C} {a n : Nat} {c : ClassId} {f f' : Nat → Int32} {H : Heap} (h : va_at D cl (a, .inl (c, n, .inl f)) H) (hf : ∀ j, j < n → f j = f' j) : va_at D cl (a, .inl (c, n, .inl f')) H := by
  have e : vp_cell c (n, .inl f') = vp_cell c (n, .inl f) := by
    rw [vp_cell_i, vp_cell_i]
    unfold arrV
    congr 2
    funext j
    exact congrArg Value.int (hf j.val j.isLt).symm
  show H[a]? = some (vp_cell c (n, .inl f'))
  rw [e]; exact h
theorem kr_cgQ {D : va_G} {cl : List vw_C} {a n : Nat} {c : ClassId} {f f' : Nat → Option Nat} {H : Heap} (h : va_at D cl (a, .inl (c, n, .inr (.inr (.inr (.inr f))))) H) (hf : ∀ j, j < n → f j = f' j) : va_at D cl (a, .inl (c, n, .inr (.inr (.inr (.inr f'))))) H := by
  have e : vp_cell c (n, .inr (.inr (.inr (.inr f')))) = vp_cell c (n, .inr (.inr (.inr (.inr f)))) := by
    rw [vp_cell_q, vp_cell_q]
    unfold arrV
    congr 2
    funext j
    exact congrArg va_rf (hf j.val j.isLt).symm
  show H[a]? = some (vp_cell c (n, .inr (.inr (.inr (.inr f')))))
  rw [e]; exact h
theorem kr_Psw {D : va_G} {cl : List vw_C} {ws : va_W} {a : Nat} {e e' : va_E} {H : Heap} (h : va_P D cl (ws ++ [(a, e)]) H) (hc : va_at D cl (a, e) H → va_at D cl (a, e') H) : va_P D cl (ws ++ [(a, e')]) H := by
  refine kr_pm.mpr (fun q hq => ?_)
  rcases List.mem_append.mp hq with h1 | h1
  · exact kr_pm.mp h q (List.mem_append_left _ h1)
  · rw [List.mem_singleton.mp h1]
    exact hc (kr_pm.mp h _ (List.mem_append_right _ (List.mem_singleton.mpr rfl)))
theorem kr_Dsw {A : Nat → Prop} {ws : va_W} {a : Nat} {e e' : va_E} (h : va_D A (ws ++ [(a, e)])) : va_D A (ws ++ [(a, e')]) := kr_Dadr h (by simp)
/-- the last block goes ahead of another -/
theorem kr_mvP {D : va_G} {cl : List vw_C} {a b c d : va_W} {H : Heap} (h : va_P D cl (((a ++ b) ++ c) ++ d) H) : va_P D cl (((a ++ d) ++ b) ++ c) H := kr_Pof h (fun q hq => by
  simp only [List.mem_append] at hq ⊢
  rcases hq with ((h | h) | h) | h
  · exact Or.inl (Or.inl (Or.inl h))
  · exact Or.inr h
  · exact Or.inl (Or.inl (Or.inr h))
  · exact Or.inl (Or.inr h))
theorem kr_mvD {A : Nat → Prop} {a b c d : va_W} (h : va_D A (((a ++ b) ++ c) ++ d)) : va_D A (((a ++ d) ++ b) ++ c) := by
  refine kr_Dperm h ?_
  rw [List.append_assoc (a ++ b), List.append_assoc a, List.append_assoc (a ++ d), List.append_assoc a]
  refine List.Perm.append_left a ?_
  rw [← List.append_assoc, ← List.append_assoc]
  rw [List.append_assoc d]
  exact List.perm_append_comm
theorem kr_mv1P {D : va_G} {cl : List vw_C} {a b d : va_W} {H : Heap} (h : va_P D cl ((a ++ b) ++ d) H) : va_P D cl ((a ++ d) ++ b) H := h.swap
theorem kr_mv1D {A : Nat → Prop} {a b d : va_W} (h : va_D A ((a ++ b) ++ d)) : va_D A ((a ++ d) ++ b) := h.swap
/-- n rows -/
def kr_rw (n : Nat) (F : Nat → Nat × va_E) : va_W := (List.range n).map F
theorem kr_rw_len (n : Nat) (F : Nat → Nat × va_E) : (kr_rw n F).length = n := by unfold kr_rw; rw [List.length_map, List.length_range]
theorem kr_rw_get {n k : Nat} {F : Nat → Nat × va_E} (h : k < n) : (kr_rw n F)[k]? = some (F k) := by
  unfold kr_rw
  rw [List.getElem?_map, List.getElem?_range h]; rfl
theorem kr_rw_s (n : Nat) (F : Nat → Nat × va_E) : kr_rw (n + 1) F = kr_rw n F ++ [F n] := by
  unfold kr_rw
  rw [List.range_succ, List.map_append]; rfl
theorem kr_rw_cg {n : Nat} {F G : Nat → Nat × va_E} (h : ∀ i, i < n → F i = G i) : kr_rw n F = kr_rw n G := by
  unfold kr_rw
  exact List.map_congr_left (fun i hi => h i (List.mem_range.mp hi))
theorem kr_rw_set {n k : Nat} {F : Nat → Nat × va_E} {v : Nat × va_E} : (kr_rw n F).set k v = kr_rw n (fun i => if i = k then v else F i) := by
  apply List.ext_getElem?
  intro j
  by_cases hj : j < n
  · rw [kr_rw_get hj]
    by_cases e : k = j
    · subst e
      rw [List.getElem?_set_self (by rw [kr_rw_len]; exact hj), if_pos rfl]
    · rw [List.getElem?_set_ne e, kr_rw_get hj, if_neg (Ne.symm e)]
  · rw [List.getElem?_eq_none (by rw [List.length_set, kr_rw_len]; omega), List.getElem?_eq_none (by rw [kr_rw_len]; omega)]
theorem kr_rw_mem {n : Nat} {F : Nat → Nat × va_E} {q : Nat × va_E} : q ∈ kr_rw n F ↔ ∃ k, k < n ∧ F k = q := by
  unfold kr_rw
  rw [List.mem_map]
  constructor
  · rintro ⟨k, h1, h2⟩; exact ⟨k, List.mem_range.mp h1, h2⟩
  · rintro ⟨k, h1, h2⟩; exact ⟨k, List.mem_range.mpr h1, h2⟩
/-- the catalogue by hand: its rows -/
abbrev kr_cK (cy : ClassId) (ad : Nat → Nat → Nat) (A : Nat → Nat → Int32) (k : Nat) : Nat × va_E := (ad 1 k, .inl (cy, 5, .inl (fun j => if j < 5 then A j k else 0)))
abbrev kr_cR (cy : ClassId) (ad : Nat → Nat → Nat) (A : Nat → Nat → Int32) (q : Nat) : Nat × va_E := (ad 2 q, .inl (cy, kr_rc A q, .inl (fun j => if j < kr_rc A q then A 7 (5 * q + j) else 0)))
abbrev kr_cT (cy : ClassId) (ad : Nat → Nat → Nat) (A : Nat → Nat → Int32) (q : Nat) : Nat × va_E := (ad 3 q, .inl (cy, kr_rc A q, .inl (fun j => if j < kr_rc A q then A 6 (5 * q + j) else 0)))
abbrev kr_cO (cz : ClassId) (ad : Nat → Nat → Nat) (i n : Nat) : Nat × va_E := (ad 0 i, .inl (cz, n, .inr (.inr (.inr (.inr (fun k => some (ad (i + 1) k)))))))
abbrev kr_X4 (cz : ClassId) (g : Nat) (ad : Nat → Nat → Nat) (N L : Nat) : va_W := [(g, .inr (1, [.ref (ad 0 0), .ref (ad 0 1), .ref (ad 0 2)])), kr_cO cz ad 0 N, kr_cO cz ad 1 L, kr_cO cz ad 2 L]
abbrev kr_RW (cy : ClassId) (ad : Nat → Nat → Nat) (N L : Nat) (A : Nat → Nat → Int32) (X : va_W) : va_W := ((X ++ kr_rw N (kr_cK cy ad A)) ++ kr_rw L (kr_cR cy ad A)) ++ kr_rw L (kr_cT cy ad A)
abbrev kr_SW (cy cz : ClassId) (g : Nat) (ad : Nat → Nat → Nat) (N L : Nat) (A : Nat → Nat → Int32) : va_W := kr_RW cy ad N L A (kr_X4 cz g ad N L)
theorem kr_RW_app (cy : ClassId) (ad : Nat → Nat → Nat) (N L : Nat) (A : Nat → Nat → Int32) (w X : va_W) : kr_RW cy ad N L A (w ++ X) = w ++ kr_RW cy ad N L A X := by
  unfold kr_RW
  rw [List.append_assoc w, List.append_assoc w, List.append_assoc w]
section KRRW
variable {cy : ClassId} {ad ad' : Nat → Nat → Nat} {N L k x : Nat} {A A' : Nat → Nat → Int32} {X : va_W} {v : Nat × va_E}
theorem kr_gK (hX : X.length = x) (hk : k < N) : (kr_RW cy ad N L A X)[x + k]? = some (kr_cK cy ad A k) := kr_gl (kr_gl (by subst hX; exact kr_gr (kr_rw_get hk)))
theorem kr_gR (hX : X.length = x) (hk : k < L) : (kr_RW cy ad N L A X)[x + N + k]? = some (kr_cR cy ad A k) := kr_gl (by
  have h := kr_gr (ws := X ++ kr_rw N (kr_cK cy ad A)) (kr_rw_get (F := kr_cR cy ad A) hk)
  rw [List.length_append, kr_rw_len, hX] at h; exact h)
theorem kr_gT (hX : X.length = x) (hk : k < L) : (kr_RW cy ad N L A X)[x + N + L + k]? = some (kr_cT cy ad A k) := by
  have h := kr_gr (ws := (X ++ kr_rw N (kr_cK cy ad A)) ++ kr_rw L (kr_cR cy ad A)) (kr_rw_get (F := kr_cT cy ad A) hk)
  rw [List.length_append, List.length_append, kr_rw_len, kr_rw_len, hX] at h; exact h
theorem kr_RWlen : (kr_RW cy ad N L A X).length = X.length + N + L + L := by
  rw [List.length_append, List.length_append, List.length_append, kr_rw_len, kr_rw_len, kr_rw_len]
theorem kr_sK (hX : X.length = x) (hk : k < N) (h1 : ∀ i, i < N → kr_cK cy ad' A' i = if i = k then v else kr_cK cy ad A i) (h2 : ∀ i, i < L → kr_cR cy ad' A' i = kr_cR cy ad A i) (h3 : ∀ i, i < L → kr_cT cy ad' A' i = kr_cT cy ad A i) : (kr_RW cy ad N L A X).set (x + k) v = kr_RW cy ad' N L A' X := by
  have l1 : (X ++ kr_rw N (kr_cK cy ad A)).length = x + N := by rw [List.length_append, kr_rw_len, hX]
  have l2 : ((X ++ kr_rw N (kr_cK cy ad A)) ++ kr_rw L (kr_cR cy ad A)).length = x + N + L := by rw [List.length_append, kr_rw_len, l1]
  unfold kr_RW
  rw [List.set_append_left _ _ (by rw [l2]; omega), List.set_append_left _ _ (by rw [l1]; omega), List.set_append_right _ _ (by rw [hX]; omega), hX, Nat.add_sub_cancel_left, kr_rw_set, kr_rw_cg (fun i hi => (h1 i hi).symm), kr_rw_cg (fun i hi => (h2 i hi).symm), kr_rw_cg (fun i hi => (h3 i hi).symm)]
theorem kr_sR (hX : X.length = x) (hk : k < L) (h1 : ∀ i, i < N → kr_cK cy ad' A' i = kr_cK cy ad A i) (h2 : ∀ i, i < L → kr_cR cy ad' A' i = if i = k then v else kr_cR cy ad A i) (h3 : ∀ i, i < L → kr_cT cy ad' A' i = kr_cT cy ad A i) : (kr_RW cy ad N L A X).set (x + N + k) v = kr_RW cy ad' N L A' X := by
  have l1 : (X ++ kr_rw N (kr_cK cy ad A)).length = x + N := by rw [List.length_append, kr_rw_len, hX]
  have l2 : ((X ++ kr_rw N (kr_cK cy ad A)) ++ kr_rw L (kr_cR cy ad A)).length = x + N + L := by rw [List.length_append, kr_rw_len, l1]
  unfold kr_RW
  rw [List.set_append_left _ _ (by rw [l2]; omega), List.set_append_right _ _ (by rw [l1]; omega), l1, Nat.add_sub_cancel_left, kr_rw_set, kr_rw_cg (fun i hi => (h1 i hi).symm), kr_rw_cg (fun i hi => (h2 i hi).symm), kr_rw_cg (fun i hi => (h3 i hi).symm)]
theorem kr_sT (hX : X.length = x) (hk : k < L) (h1 : ∀ i, i < N → kr_cK cy ad' A' i = kr_cK cy ad A i) (h2 : ∀ i, i < L → kr_cR cy ad' A' i = kr_cR cy ad A i) (h3 : ∀ i, i < L → kr_cT cy ad' A' i = if i = k then v else kr_cT cy ad A i) : (kr_RW cy ad N L A X).set (x + N + L + k) v = kr_RW cy ad' N L A' X := by
  have l1 : (X ++ kr_rw N (kr_cK cy ad A)).length = x + N := by rw [List.length_append, kr_rw_len, hX]
  have l2 : ((X ++ kr_rw N (kr_cK cy ad A)) ++ kr_rw L (kr_cR cy ad A)).length = x + N + L := by rw [List.length_append, kr_rw_len, l1]
  unfold kr_RW
  rw [List.set_append_right _ _ (by rw [l2]; omega), l2, Nat.add_sub_cancel_left, kr_rw_set, kr_rw_cg (fun i hi => (h1 i hi).symm), kr_rw_cg (fun i hi => (h2 i hi).symm), kr_rw_cg (fun i hi => (h3 i hi).symm)]
theorem kr_sX {i : Nat} (hi : i < X.length) : (kr_RW cy ad N L A X).set i v = kr_RW cy ad N L A (X.set i v) := by
  have l1 : (X ++ kr_rw N (kr_cK cy ad A)).length = X.length + N := by rw [List.length_append, kr_rw_len]
  have l2 : ((X ++ kr_rw N (kr_cK cy ad A)) ++ kr_rw L (kr_cR cy ad A)).length = X.length + N + L := by rw [List.length_append, kr_rw_len, l1]
  unfold kr_RW
  rw [List.set_append_left _ _ (by rw [l2]; omega), List.set_append_left _ _ (by rw [l1]; omega), List.set_append_left _ _ hi]
theorem kr_RWcg (h1 : ∀ i, i < N → kr_cK cy ad' A' i = kr_cK cy ad A i) (h2 : ∀ i, i < L → kr_cR cy ad' A' i = kr_cR cy ad A i) (h3 : ∀ i, i < L → kr_cT cy ad' A' i = kr_cT cy ad A i) : kr_RW cy ad N L A X = kr_RW cy ad' N L A' X := by
  unfold kr_RW
  rw [kr_rw_cg (fun i hi => (h1 i hi).symm), kr_rw_cg (fun i hi => (h2 i hi).symm), kr_rw_cg (fun i hi => (h3 i hi).symm)]
end KRRW
/-! arrays of rows of ints -/
def kr_AO (U : State) : Prop := (Cond.arrayOver (.array .int)).before #[] U = true
theorem kr_AO.moved {u U : State} (hvm : u.vm.Alike U.vm) (h : kr_AO u) : kr_AO U := by
  obtain ⟨comp, c, k, h1, h2, h3, h4, h5⟩ := arrayOverA_spec h
  obtain ⟨k', hk', he⟩ := hvm.2.2 _ _ h3
  have hi : (U.vm.classes.findIdx? fun (x : Class) => match x.kind with | .array component _ => component == comp | _ => false) = some c := by
    rw [hvm.findIdx?_eq _ (fun _ => rfl)]
    exact h2
  have hkind : k'.kind = .array comp (.array .int) := by rw [he]; exact h4
  have f1 : U.vm.findClass (FieldType.array .int).toString = some comp := by rw [hvm.findClass]; exact h1
  have f2 : U.vm.findClass ("[" ++ (FieldType.array .int).toString) = some c := by rw [hvm.findClass]; exact h5
  unfold kr_AO Cond.before Cond.holds
  simp only [Cond.value]
  rw [f1, Option.bind_some]
  refine (congrArg (fun o : Option Nat => (o.bind (fun c => (U.vm.classes[c]?).map fun (k : Class) => match k.kind with | .array _ ty => decide (ty = FieldType.array .int) && decide (U.vm.findClass ("[" ++ (FieldType.array .int).toString) = some c) | _ => false) == some true)) hi).trans ?_
  simp [hk', hkind, f2]
theorem kr_zz {D : va_G} {cl : List vw_C} {cy cz : ClassId} {s : State} (hA : kr_AO s) (hK : va_K D cl [(cy, .int), (cz, .array .int)] s) : ∃ kz ky : Class, s.vm.classes[cz]? = some kz ∧ kz.kind = .array cy (.array .int) ∧ s.vm.classes[cy]? = some ky := by
  obtain ⟨comp, c, k, h1, h2, h3, h4, h5⟩ := arrayOverA_spec hA
  have e1 : va_RA s cy .int := (hK.2 0 _ rfl).2
  have e2 : va_RA s cz (.array .int) := (hK.2 1 _ rfl).2
  have f1 : s.vm.findClass (FieldType.array .int).toString = some cy := e1
  have f2 : s.vm.findClass ("[" ++ (FieldType.array .int).toString) = some cz := e2
  obtain rfl : comp = cy := Option.some.inj (h1.symm.trans f1)
  obtain rfl : c = cz := Option.some.inj (h5.symm.trans f2)
  obtain ⟨ky, hky, -⟩ := Vm.findClass_spec h1
  exact ⟨k, ky, h3, h4, hky⟩
theorem kr_asg (vm : Vm) (c : ClassId) : vm.assignable c c = true := by
  show Vm.assignableAux vm (255 + 1) c c = true
  rw [Vm.assignableAux]
  simp
section KRQ
variable {p : Program} {l : Launch} {e : Env} {R : Room} {s : State} {m : MethodId} {args : Array Value} {below : List Frame} {meth : Method} {c : Code} {H : Heap} {locs : List Loc} {cells slots : Nat} {Q : State → Prop} {cc : ByteArray} {pc : Nat} {ls : Array Slot} {rest st0 : List Value} {D : va_G} {cl : List vw_C} {ws : va_W} {cy cz : ClassId} {AA BB : Nat → Prop} {H0 : Heap} {a : Nat}
/-- a row out of an array of rows -/
theorem kr_aldq (hx : p.tables.exec = Jvm.exec) (hb : c.code = cc) (hK : va_K D cl [(cy, .int), (cz, .array .int)] s) (hP : va_P D cl ws H) (q0 : Nat) {n : Nat} {f : Nat → Option Nat} (ha : ws[q0]? = some (a, .inl (cz, n, .inr (.inr (.inr (.inr f)))))) (k : Nat) (hk : k < n) (hn : n < 2 ^ 31) {v : Nat} (hv : f k = some v) (hdg : decode cc pc = .ok (.aaload, 1))
    (kk : W p l e R s m args below meth c H locs cells slots Q (F0 m (pc + 1) ls (.ref v :: rest))) : W p l e R s m args below meth c H locs cells slots Q (F0 m pc ls (.int (nI k) :: .ref a :: rest)) := by
  have hin : vp_in (nI k) n := vp_in_nI hk hn
  have hlt : (nI k).toNatClampNeg < n := Nat.not_le.mp fun q => hin (Or.inr q)
  refine W.aald (v := .ref v) (ty := .array .int) hx hb (hP q0 _ ha) ((hK.2 1 _ rfl).1 n (fun j => va_rf (f j))) rfl (fun q => by cases q) (by show ¬ ((nI k) < 0 ∨ (arrV _ _ _).slots.size ≤ _); rw [arrV_size]; exact hin) (by show (arrV _ _ _).slots[_]? = _; rw [arrV_read _ _ hlt, nI_clamp (by omega), hv]; rfl) rfl rfl hdg kk
/-- a row into an array of rows -/
theorem kr_astq (hx : p.tables.exec = Jvm.exec) (hb : c.code = cc) (hZ : kr_AO s) (hK : va_K D cl [(cy, .int), (cz, .array .int)] s) (hP : va_P D cl ws H) (hD : va_D BB ws) (hS : va_S AA H0 H locs) (haA : AA a) (q0 q1 : Nat) {n v n1 : Nat} {f : Nat → Option Nat} {f1 : Nat → Int32} (ha : ws[q0]? = some (a, .inl (cz, n, .inr (.inr (.inr (.inr f)))))) (hv : ws[q1]? = some (v, .inl (cy, n1, .inl f1))) (k : Nat) (hk : k < n) (hn : n < 2 ^ 31) (hdg : decode cc pc = .ok (.aastore, 1))
    (kk : ∀ (H1 : Heap) (locs1 : List Loc), va_P D cl (ws.set q0 (a, .inl (cz, n, .inr (.inr (.inr (.inr (va_up f k (some v)))))))) H1 → va_D BB (ws.set q0 (a, .inl (cz, n, .inr (.inr (.inr (.inr (va_up f k (some v)))))))) → va_S AA H0 H1 locs1 → W p l e R s m args below meth c H1 locs1 cells slots Q (F0 m (pc + 1) ls rest)) : W p l e R s m args below meth c H locs cells slots Q (F0 m pc ls (.ref v :: .int (nI k) :: .ref a :: rest)) := by
  obtain ⟨kz, ky, z1, z2, z3⟩ := kr_zz hZ hK
  have hcl : (nI k).toNatClampNeg = k := nI_clamp (by omega)
  refine W.aast hx hb (hP q0 _ ha) (fun q h => by cases h) (fun h => by cases h) z1 z2 rfl z3 ⟨nI_pos (by omega), by show _ < (arrV _ _ _).slots.size; rw [arrV_size, hcl]; exact hk⟩ (hP q1 _ hv) (fun q h => by cases h) z3 (kr_asg _ _) rfl rfl hdg fun H1 e z oq => ?_
  refine kk H1 _ (hP.set hD ha ?_ oq) (hD.set ha) (hS.put z oq haA)
  show H1[a]? = some (vp_cell _ _)
  rw [e, hcl]
  rw [vp_cell_q, vp_cell_q, arrV_store]
  congr 2
  funext q
  by_cases hq : q = k
  · subst hq
    simp [updV, va_up, va_rf]
  · simp [updV, va_up, hq]
/-- an int into a row, of cells that may be another's -/
theorem kr_astF (hx : p.tables.exec = Jvm.exec) (hb : c.code = cc) {tys : List (ClassId × FieldType)} (hK : va_K D cl ((cy, .int) :: tys) s) (hP : va_P D cl ws H) (hD : va_D BB ws) (hS : va_S AA H0 H locs) (haA : AA a) (q0 : Nat) {n : Nat} {f : Nat → Int32} (ha : ws[q0]? = some (a, .inl (cy, n, .inl f))) (k : Nat) {x : Int32} (hk : k < n) (hn : n < 2 ^ 31) (hdg : decode cc pc = .ok (.iastore, 1))
    (kk : ∀ (H1 : Heap) (locs1 : List Loc), va_P D cl (ws.set q0 (a, .inl (cy, n, .inl (upd f k x)))) H1 → va_D BB (ws.set q0 (a, .inl (cy, n, .inl (upd f k x)))) → va_S AA H0 H1 locs1 → W p l e R s m args below meth c H1 locs1 cells slots Q (F0 m (pc + 1) ls rest)) : W p l e R s m args below meth c H locs cells slots Q (F0 m pc ls (.int x :: .int (nI k) :: .ref a :: rest)) := by
  have hcl : (nI k).toNatClampNeg = k := nI_clamp (by omega)
  have hin : vp_in (nI k) n := vp_in_nI hk hn
  refine W.iast hx hb (hP q0 _ ha) ((hK.2 0 _ rfl).1 n (fun j => .int (f j))) (fun q => by cases q) (by show ¬ ((nI k) < 0 ∨ (arrV _ _ _).slots.size ≤ _); rw [arrV_size]; exact hin) rfl rfl hdg fun H1 e z oq => ?_
  refine kk H1 _ (hP.set hD ha ?_ oq) (hD.set ha) (hS.put z oq haA)
  show H1[a]? = some (vp_cell _ _)
  rw [e, hcl]
  rw [vp_cell_i, vp_cell_i, arrV_store]
  congr 2
  funext q
  by_cases hq : q = k
  · subst hq
    simp [updV, upd]
  · simp [updV, upd, hq]
/-- a new row; the world's other cells may be another's -/
theorem kr_newF (hx : p.tables.exec = Jvm.exec) (hb : c.code = cc) (hts : ∀ w ∈ kr_all, w.before args s = true) {tys : List (ClassId × FieldType)} (hK : va_K D cl ((cy, .int) :: tys) s) (hP : va_P D cl ws H) (hD : va_D BB ws) (hB : ∀ q : Nat, H0.size ≤ q → BB q) (hS : va_S AA H0 H locs) {n : Int32} (N' : Nat) (hn : ¬ n < 0) (hN : n.toNatClampNeg = N') (hb2 : N' ≤ 1000) (hcells : cells + 1 ≤ R.cells) (hslots : slots + N' ≤ R.slots) (hdg : decode cc pc = .ok (.newarray .int, 2))
    (kk : ∀ (q : Nat) (H1 : Heap), H0.size ≤ q → va_P D cl (ws ++ [(q, .inl (cy, N', .inl (fun _ => 0)))]) H1 → va_D BB (ws ++ [(q, .inl (cy, N', .inl (fun _ => 0)))]) → va_S AA H0 H1 locs → W p l e R s m args below meth c H1 locs (cells + 1) (slots + N') Q (F0 m (pc + 2) ls (.ref q :: rest))) : W p l e R s m args below meth c H locs cells slots Q (F0 m pc ls (.int n :: rest)) := by
  refine va_newaK (atype := .int) hx hb (hts _ kq_73) rfl hdg rfl hn hN (show N' * 4 ≤ 536870912 by omega) hcells hslots rfl fun H1 cA e1 z1 o1 hAr hNm => ?_
  have f1 : va_RA s cy .int := (hK.2 0 _ rfl).2
  obtain rfl : cA = cy := Option.some.inj (hNm.symm.trans f1)
  have hk : ∀ (k : Nat) (x : Nat × va_E), ws[k]? = some x → H1[x.1]? = H[x.1]? := fun k x hx => o1 x.1 ((hP k x hx).lt)
  refine kk H.size H1 hS.1 ((hP.kept hk).app (fun k x hx => ?_)) (hD.push hP rfl (hB _ hS.1)) ⟨Nat.le_trans hS.1 (by omega), fun x h1 h2 => (o1 x (Nat.lt_of_lt_of_le h1 hS.1)).trans (hS.2.1 x h1 h2), hS.2.2⟩
  have hz : k < 1 := (List.getElem?_eq_some_iff.mp hx).1
  rw [show k = 0 by omega] at hx
  cases hx
  show H1[H.size]? = some (vp_cell _ _)
  exact e1
/-- a new array of rows -/
theorem kr_newQ (hx : p.tables.exec = Jvm.exec) (hb : c.code = cc) {own : String} {index : Nat} (hown : s.vm.findClass own = some m.cls) (hclink : (Cond.classLink own index "[I").before args s = true) (hZ : kr_AO s) (hP : va_P D cl ws H) (hD : va_D BB ws) (hB : ∀ q : Nat, H0.size ≤ q → BB q) (hS : va_S AA H0 H locs) {n : Int32} (N' : Nat) (hn : ¬ n < 0) (hN : n.toNatClampNeg = N') (hb2 : N' ≤ 1000) (hcells : cells + 1 ≤ R.cells) (hslots : slots + N' ≤ R.slots) (hdg : decode cc pc = .ok (.anewarray index, 3))
    (kk : ∀ (q : Nat) (cA : ClassId) (H1 : Heap), H0.size ≤ q → ArrOfT s cA (.array .int) ∧ va_RA s cA (.array .int) → va_P D cl (ws ++ [(q, .inl (cA, N', .inr (.inr (.inr (.inr (fun _ => none))))))]) H1 → va_D BB (ws ++ [(q, .inl (cA, N', .inr (.inr (.inr (.inr (fun _ => none))))))]) → va_S AA H0 H1 locs → W p l e R s m args below meth c H1 locs (cells + 1) (slots + N') Q (F0 m (pc + 3) ls (.ref q :: rest))) : W p l e R s m args below meth c H locs cells slots Q (F0 m pc ls (.int n :: rest)) := by
  subst hN
  refine W.anewA (t := .int) hx hb hown hclink hZ rfl hdg rfl hn (by omega) hcells hslots fun cA kA comp f1 f2 f3 f4 => ?_
  generalize hH1 : H.push ({ cls := cA, slots := Array.replicate n.toNatClampNeg .null, vm := .none } : Cell) = H1
  have z1 : H1.size = H.size + 1 := by rw [← hH1, Array.size_push]
  have e1 : H1[H.size]? = some (arrV cA n.toNatClampNeg (fun _ => .null)) := by rw [← hH1, Array.getElem?_push_size, ← arrV_new]
  have o1 : ∀ q : Nat, q < H.size → H1[q]? = H[q]? := fun q hq => by rw [← hH1, Array.getElem?_push, if_neg (Nat.ne_of_lt hq)]
  have hAr : ArrOfT s cA (.array .int) := fun N z => ⟨(fun k h => by cases h), kA, f2, comp, f3⟩
  have hk : ∀ (k : Nat) (x : Nat × va_E), ws[k]? = some x → H1[x.1]? = H[x.1]? := fun k x hx => o1 x.1 ((hP k x hx).lt)
  refine kk H.size cA H1 hS.1 ⟨hAr, f1⟩ ((hP.kept hk).app (fun k x hx => ?_)) (hD.push hP rfl (hB _ hS.1)) ⟨Nat.le_trans hS.1 (by omega), fun x h1 h2 => (o1 x (Nat.lt_of_lt_of_le h1 hS.1)).trans (hS.2.1 x h1 h2), hS.2.2⟩
  have hz : k < 1 := (List.getElem?_eq_some_iff.mp hx).1
  rw [show k = 0 by omega] at hx
  cases hx
  show H1[H.size]? = some (vp_cell _ _)
  rw [vp_cell_q]
  exact e1
theorem kr_Kapp {tys : List (ClassId × FieldType)} {ty : FieldType} {cA : ClassId} (hK : va_K D cl tys s) (h : ArrOfT s cA ty ∧ va_RA s cA ty) : va_K D cl (tys ++ [(cA, ty)]) s := by
  refine hK.app ⟨hK.1, fun k x hx => ?_⟩
  have hz : k < 1 := (List.getElem?_eq_some_iff.mp hx).1
  rw [show k = 0 by omega] at hx
  cases hx
  exact h
theorem kr_Ksame {tys : List (ClassId × FieldType)} {ty : FieldType} {cA cB : ClassId} (h1 : va_RA s cA (.array .int)) (h2 : va_RA s cB (.array .int)) : cA = cB := Option.some.inj (Eq.trans (Eq.symm (show s.vm.findClass _ = some cA from h1)) h2)
/-- a call in a part of the world -/
theorem kr_qI {V : Type} {post : Int32 → V → Prop} {B : V → State → Prop} {w1 : V → va_W} {wc wr : va_W} {mc ms : Nat} {av : Array Value} (hr : va_Run p l e R s m args below meth c H locs cells slots mc ms (F0 m pc ls st0) rest (va_Qi post B (va_A wc H.size) av) (va_A wc H.size)) (hB : ∀ u t, B u t → va_P D cl (w1 u) t.heap ∧ va_D (va_A wc H.size) (w1 u)) (hP : va_P D cl (wc ++ wr) H) (hD : va_D AA (wc ++ wr)) (hS : va_S AA H0 H locs) (hA : ∀ q : Nat, H0.size ≤ q → AA q)
    (kk : ∀ (r : Int32) (u : V) (H1 : Heap) (locs1 : List Loc), post r u → va_P D cl (w1 u ++ wr) H1 → va_D AA (w1 u ++ wr) → va_S AA H0 H1 locs1 → W p l e R s m args below meth c H1 locs1 (cells + mc) (slots + ms) Q (F0 m (pc + 3) ls (.int r :: rest))) : W p l e R s m args below meth c H locs cells slots Q (F0 m pc ls st0) := by
  have hF := kr_fr2 hD hS hA
  refine va_calli hr hS (fun q _ h => hF q h) hF (fun r u t H1 locs1 ht hvm hp hb hz hk hS1 => ?_)
  obtain ⟨hP1, hD1⟩ := hB u t hb
  rw [ht] at hP1
  obtain ⟨hP2, hD2⟩ := kr_jn2 hP hD hk hF hP1 hD1
  exact kk r u H1 locs1 hp hP2 hD2 hS1
theorem kr_qV {V : Type} {post : V → Prop} {B : V → State → Prop} {w1 : V → va_W} {wc wr : va_W} {mc ms : Nat} {av : Array Value} (hr : va_Run p l e R s m args below meth c H locs cells slots mc ms (F0 m pc ls st0) rest (va_Qv post B (va_A wc H.size) av) (va_A wc H.size)) (hB : ∀ u t, B u t → va_P D cl (w1 u) t.heap ∧ va_D (va_A wc H.size) (w1 u)) (hP : va_P D cl (wc ++ wr) H) (hD : va_D AA (wc ++ wr)) (hS : va_S AA H0 H locs) (hA : ∀ q : Nat, H0.size ≤ q → AA q)
    (kk : ∀ (u : V) (t : State) (H1 : Heap) (locs1 : List Loc), t.heap = H1 → s.vm.Alike t.vm → B u t → post u → va_P D cl (w1 u ++ wr) H1 → va_D AA (w1 u ++ wr) → va_S AA H0 H1 locs1 → W p l e R s m args below meth c H1 locs1 (cells + mc) (slots + ms) Q (F0 m (pc + 3) ls rest)) : W p l e R s m args below meth c H locs cells slots Q (F0 m pc ls st0) := by
  have hF := kr_fr2 hD hS hA
  refine va_callv hr hS (fun q _ h => hF q h) hF (fun u t H1 locs1 ht hvm hp hb hz hk hS1 => ?_)
  obtain ⟨hP1, hD1⟩ := hB u t hb
  rw [ht] at hP1
  obtain ⟨hP2, hD2⟩ := kr_jn2 hP hD hk hF hP1 hD1
  exact kk u t H1 locs1 ht hvm hb hp hP2 hD2 hS1
/-- a call that makes a cell and hands it back -/
theorem kr_qR {V : Type} {post : V → Prop} {B : V → Nat → State → Prop} {w1 : V → Nat → va_W} {mc ms : Nat} {av : Array Value} (hr : va_Run p l e R s m args below meth c H locs cells slots mc ms (F0 m pc ls st0) rest (va_Qr post B (va_A [] H.size) av) (va_A [] H.size)) (hB : ∀ u q t, B u q t → va_P D cl (w1 u q) t.heap ∧ va_D (va_A [] H.size) (w1 u q)) (hP : va_P D cl ws H) (hD : va_D BB ws) (hBB : ∀ q : Nat, H0.size ≤ q → BB q) (hS : va_S AA H0 H locs) (hA : ∀ q : Nat, H0.size ≤ q → AA q)
    (kk : ∀ (u : V) (q : Nat) (H1 : Heap) (locs1 : List Loc), post u → (∀ b : Nat, b < H.size → H1[b]? = H[b]?) → va_P D cl (ws ++ w1 u q) H1 → va_D BB (ws ++ w1 u q) → va_S AA H0 H1 locs1 → W p l e R s m args below meth c H1 locs1 (cells + mc) (slots + ms) Q (F0 m (pc + 3) ls (.ref q :: rest))) : W p l e R s m args below meth c H locs cells slots Q (F0 m pc ls st0) := by
  have hF : ∀ q, va_A [] H.size q → AA q := kr_frN hS hA
  have hF2 : ∀ q, va_A [] H.size q → BB q := fun q h => by
    rcases h with ⟨k, e, h⟩ | h
    · exact absurd h (by simp)
    · exact hBB q (Nat.le_trans hS.1 h)
  refine va_callr hr hS (fun q _ h => hF q h) hF (fun u q t H1 locs1 ht hvm hp hb hz hk hS1 => ?_)
  obtain ⟨hP1, hD1⟩ := hB u q t hb
  rw [ht] at hP1
  obtain ⟨hP2, hD2⟩ := kr_jnN hP hD hk hF2 hP1 hD1
  exact kk u q H1 locs1 hp (fun b h => hk b h (kr_nA (Nat.not_le.mpr h))) hP2 hD2 hS1
/-- a call that makes cells that nobody keeps -/
theorem kr_qN {post : Int32 → Unit → Prop} {B : Unit → State → Prop} {mc ms : Nat} {av : Array Value} (hr : va_Run p l e R s m args below meth c H locs cells slots mc ms (F0 m pc ls st0) rest (va_Qi post B (va_A [] H.size) av) (va_A [] H.size)) (hP : va_P D cl ws H) (hS : va_S AA H0 H locs) (hA : ∀ q : Nat, H0.size ≤ q → AA q)
    (kk : ∀ (r : Int32) (H1 : Heap) (locs1 : List Loc), post r () → (∀ b : Nat, b < H.size → H1[b]? = H[b]?) → va_P D cl ws H1 → va_S AA H0 H1 locs1 → W p l e R s m args below meth c H1 locs1 (cells + mc) (slots + ms) Q (F0 m (pc + 3) ls (.int r :: rest))) : W p l e R s m args below meth c H locs cells slots Q (F0 m pc ls st0) := by
  have hF : ∀ q, va_A [] H.size q → AA q := kr_frN hS hA
  refine va_calli hr hS (fun q _ h => hF q h) hF (fun r u t H1 locs1 ht hvm hp hb hz hk hS1 => ?_)
  exact kk r H1 locs1 hp (fun b h => hk b h (kr_nA (Nat.not_le.mpr h))) (kr_kpN hP hk) hS1
end KRQ
end
section
/-! what the property asks of the answers, as facts of the rows -/
def kr_wx (N L : Nat) (A : Nat → Nat → Int32) : Prop := (0 < N → A 0 0 = 0) ∧ (1 < N → A 0 1 = 1) ∧ (∀ k, k < N → (∃ q, 10 ≤ q ∧ q ≤ 100 ∧ A 1 k = nI q) ∧ (∃ q, 1 ≤ q ∧ q ≤ 9 ∧ A 2 k = nI q) ∧ ∀ j, j < k → A 4 k = nI j → A 0 j = A 0 k) ∧ ∀ q, q < L → ∀ p, p < kr_rc A q → (∃ z, 1 ≤ z ∧ z ≤ 999 ∧ A 7 (5 * q + p) = nI z) ∧ ∀ k, k < N → A 6 (5 * q + p) = nI k → A 0 k = if p = 0 then 1 else 0
theorem kr_wx_we {N L : Nat} {A : Nat → Nat → Int32} (hx : kr_wx N L A) : kr_we N A := fun k hk => by
  obtain ⟨⟨q, h1, h2, h3⟩, -⟩ := hx.2.2.1 k hk
  exact ⟨q, h2, h3⟩
theorem kr_nIne {a b : Nat} (ha : a < 2 ^ 31) (hb : b < 2 ^ 31) (h : a ≠ b) : nI a ≠ nI b := fun e => h ((nI_eq ha hb).mp e)
theorem kr_mxN {a b : Nat} (ha : a < 2 ^ 31) (hb : b < 2 ^ 31) : kr_mx (nI a) (nI b) = nI (max a b) := by
  unfold kr_mx
  by_cases h : a < b
  · rw [if_pos (nI_lt h hb), Nat.max_eq_right (by omega)]
  · rw [if_neg (nI_nlt (by omega) ha), Nat.max_eq_left (by omega)]
theorem kr_mnN {a b : Nat} (ha : a < 2 ^ 31) (hb : b < 2 ^ 31) : kr_mn (nI a) (nI b) = nI (min a b) := by
  unfold kr_mn
  by_cases h : b < a
  · rw [if_pos (nI_lt h ha), Nat.min_eq_right (by omega)]
  · rw [if_neg (nI_nlt (by omega) hb), Nat.min_eq_left (by omega)]
section KRF
variable {N L : Nat} {A : Nat → Nat → Int32} {ld ld2 : Int32}
theorem kr_go_m {x : Int32} (h : ld ≤ ld2) (hg : kr_go A ld x) : kr_go A ld2 x := ⟨hg.1, hg.2.1, Int32.le_trans hg.2.2 h⟩
theorem kr_go_n : ¬ kr_go A ld (-1) := fun q => q.1 rfl
theorem kr_pf1 (hw : kr_wf N L A) (hx : kr_wx N L A) (k : Nat) (hk : k < N) : kr_fm A ld 16 (nI k) = -1 ∨ ∃ j, j ≤ k ∧ kr_fm A ld 16 (nI k) = nI j ∧ A 0 j = A 0 k ∧ ¬ kr_go A ld (nI j) := by
  induction k using Nat.strongRecOn with
  | ind k ih =>
    by_cases hg : kr_go A ld (nI k)
    · rw [kr_fm_16 hw hk hg]
      rcases (hw.2.2.1 k hk).2.1 with e | ⟨j, hj, e⟩
      · rw [e]; exact Or.inl (kr_fm_no kr_go_n 16)
      · rw [e]
        rcases ih j hj (by omega) with h | ⟨i, h1, h2, h3, h4⟩
        · exact Or.inl h
        · exact Or.inr ⟨i, by omega, h2, h3.trans ((hx.2.2.1 k hk).2.2 j hj e), h4⟩
    · exact Or.inr ⟨k, Nat.le_refl _, kr_fm_no hg 16, rfl, hg⟩
theorem kr_pf2 (hw : kr_wf N L A) (hx : kr_wx N L A) {k : Nat} (hk : k < N) : kr_fm A ld 16 (nI k) = nI k ↔ kr_sp A ld 16 (nI k) = 0 := by
  have h16 := hw.1
  by_cases hg : kr_go A ld (nI k)
  · rw [kr_fm_16 hw hk hg, kr_sp_16 hw hk hg]
    constructor
    · intro e
      exfalso
      rcases (hw.2.2.1 k hk).2.1 with e2 | ⟨j, hj, e2⟩
      · rw [e2, kr_fm_no kr_go_n 16] at e
        exact kr_kn_ne (by omega) e.symm
      · rw [e2] at e
        rcases kr_pf1 (ld := ld) hw hx j (by omega) with h | ⟨i, h1, h2, -, -⟩
        · rw [h] at e; exact kr_kn_ne (by omega) e.symm
        · rw [h2] at e; exact kr_nIne (by omega) (by omega) (by omega) e
    · intro e; omega
  · rw [kr_fm_no hg, kr_sp_no hg]
    exact ⟨fun _ => rfl, fun _ => rfl⟩
theorem kr_sp_le : ∀ (n : Nat) (x : Int32), kr_sp A ld n x ≤ n
  | 0, _ => Nat.le_refl _
  | n + 1, x => by
    rw [kr_sp_e]
    have := kr_sp_le n (A 4 (kr_ix x))
    split <;> omega
theorem kr_pf3 (hw : kr_wf N L A) (hle : ld ≤ ld2) (k : Nat) (hk : k < N) : kr_sp A ld 16 (nI k) ≤ kr_sp A ld2 16 (nI k) := by
  induction k using Nat.strongRecOn with
  | ind k ih =>
    by_cases hg : kr_go A ld (nI k)
    · rw [kr_sp_16 hw hk hg, kr_sp_16 hw hk (kr_go_m hle hg)]
      rcases (hw.2.2.1 k hk).2.1 with e | ⟨j, hj, e⟩
      · rw [e, kr_sp_no kr_go_n, kr_sp_no kr_go_n]; omega
      · rw [e]
        have := ih j hj (by omega)
        omega
    · rw [kr_sp_no hg]; omega
theorem kr_pf4 (hw : kr_wf N L A) (hle : ld ≤ ld2) (k : Nat) (hk : k < N) (h : kr_fm A ld 16 (nI k) = -1) : kr_fm A ld2 16 (nI k) = -1 := by
  have h16 := hw.1
  induction k using Nat.strongRecOn with
  | ind k ih =>
    by_cases hg : kr_go A ld (nI k)
    · rw [kr_fm_16 hw hk hg] at h
      rw [kr_fm_16 hw hk (kr_go_m hle hg)]
      rcases (hw.2.2.1 k hk).2.1 with e | ⟨j, hj, e⟩
      · rw [e, kr_fm_no kr_go_n]
      · rw [e] at h ⊢
        exact ih j hj (by omega) h
    · rw [kr_fm_no hg] at h
      exact absurd h (kr_kn_ne (by omega))
theorem kr_goN (hw : kr_wf N L A) {k : Nat} (hk : k < N) : ∃ q, q ≤ 999 ∧ A 3 k = nI q ∧ (q = 0 → A 4 k = -1) ∧ ∀ d, d ≤ 999 → (kr_go A (nI d) (nI k) ↔ 0 < q ∧ q ≤ d) := by
  have h16 := hw.1
  obtain ⟨-, -, ⟨q, hq, eq⟩, h0⟩ := hw.2.2.1 k hk
  refine ⟨q, hq, eq, fun h => h0 (by rw [eq, h]; rfl), fun d hd => ?_⟩
  rw [kr_go_nI (by omega), eq]
  constructor
  · rintro ⟨h1, h2⟩
    refine ⟨?_, (nI_leI (by omega) (by omega)).mp h2⟩
    rcases Nat.eq_zero_or_pos q with e | e
    · rw [e] at h1; exact absurd rfl h1
    · exact e
  · rintro ⟨h1, h2⟩
    exact ⟨nI_ne0 h1 (by omega), nI_le h2 (by omega)⟩
/-- the load at which it falls apart -/
theorem kr_pf5 (hw : kr_wf N L A) (k : Nat) (hk : k < N) : ∀ g, g ≤ 999 → ∃ z, z ≤ 999 ∧ kr_fa A 16 (nI k) (nI g) = nI z ∧ (z = 0 → ∀ d, d ≤ 999 → kr_fm A (nI d) 16 (nI k) ≠ -1) ∧ (0 < z → g ≤ z ∧ ∀ d, d ≤ 999 → (kr_fm A (nI d) 16 (nI k) = -1 ∧ g ≤ d ↔ z ≤ d)) := by
  have h16 := hw.1
  induction k using Nat.strongRecOn with
  | ind k ih =>
    intro g hg
    obtain ⟨q, hq, eq, hq0, hgo⟩ := kr_goN hw hk
    have hno : ∀ d, d ≤ 999 → ¬ (0 < q ∧ q ≤ d) → kr_fm A (nI d) 16 (nI k) ≠ -1 := fun d hd h => by
      rw [kr_fm_no (fun w => h ((hgo d hd).mp w))]
      exact kr_kn_ne (by omega)
    rcases Nat.eq_zero_or_pos q with e0 | e0
    · refine ⟨0, by omega, ?_, fun _ d hd => hno d hd (by omega), fun h => by omega⟩
      exact kr_fa_0 (i := 0) (by omega) (by omega) (by rw [eq, e0]; rfl)
    · have h3 : ¬ A 3 k = 0 := by rw [eq]; exact nI_ne0 e0 (by omega)
      rw [kr_fa_16 hw hk h3, eq, kr_mxN (by omega) (by omega)]
      rcases (hw.2.2.1 k hk).2.1 with e | ⟨j, hj, e⟩
      · rw [e, kr_fa_no]
        refine ⟨max g q, by omega, rfl, fun h => by omega, fun _ => ⟨by omega, fun d hd => ?_⟩⟩
        by_cases hd2 : q ≤ d
        · rw [kr_fm_16 hw hk ((hgo d hd).mpr ⟨e0, hd2⟩), e, kr_fm_no kr_go_n]
          constructor
          · rintro ⟨-, h⟩; omega
          · intro h; exact ⟨rfl, by omega⟩
        · constructor
          · rintro ⟨h, -⟩; exact absurd h (hno d hd (by omega))
          · intro h; omega
      · rw [e]
        obtain ⟨z, h1, h2, h3, h4⟩ := ih j hj (by omega) (max g q) (by omega)
        refine ⟨z, h1, h2, fun hz d hd => ?_, fun hz => ⟨by have := (h4 hz).1; omega, fun d hd => ?_⟩⟩
        · by_cases hd2 : q ≤ d
          · rw [kr_fm_16 hw hk ((hgo d hd).mpr ⟨e0, hd2⟩), e]
            exact h3 hz d hd
          · exact hno d hd (by omega)
        · obtain ⟨h5, h6⟩ := h4 hz
          by_cases hd2 : q ≤ d
          · rw [kr_fm_16 hw hk ((hgo d hd).mpr ⟨e0, hd2⟩), e, ← h6 d hd]
            constructor
            · rintro ⟨a1, a2⟩; exact ⟨a1, by omega⟩
            · rintro ⟨a1, a2⟩; exact ⟨a1, by omega⟩
          · constructor
            · rintro ⟨h, -⟩; exact absurd h (hno d hd (by omega))
            · intro h; omega
/-- a place under a load -/
def kr_hd (A : Nat → Nat → Int32) (g : Int32 → Int32) (x : Int32) (d : Nat) : Prop := kr_fm A (nI d) 16 x ≠ -1 ∧ nI d ≤ g (kr_fm A (nI d) 16 x)
theorem kr_pl1 (hw : kr_wf N L A) {g : Int32 → Int32} (hg : ∀ j, j < N → ∃ s, s ≤ 999 ∧ g (nI j) = nI s) (k : Nat) (hk : k < N) : ∀ h, h ≤ 999 → ∃ r, h ≤ r ∧ r ≤ 999 ∧ kr_lh A g 16 (nI k) (nI h) = nI r ∧ (∀ d, h < d → d ≤ r → kr_hd A g (nI k) d) ∧ (r < 999 → ¬ kr_hd A g (nI k) (r + 1)) := by
  have h16 := hw.1
  induction k using Nat.strongRecOn with
  | ind k ih =>
    intro h hh
    obtain ⟨q, hq, eq, hq0, hgo0⟩ := kr_goN hw hk
    obtain ⟨e, he, een, hgo⟩ : ∃ e, e ≤ 999 ∧ kr_en A (nI k) = nI e ∧ ∀ d, d ≤ 999 → (kr_go A (nI d) (nI k) ↔ e < d) := by
      rcases Nat.eq_zero_or_pos q with e0 | e0
      · refine ⟨999, by omega, ?_, fun d hd => ?_⟩
        · rw [kr_en_nI (by omega), if_pos (by rw [eq, e0]; rfl)]; rfl
        · rw [hgo0 d hd]; omega
      · refine ⟨q - 1, by omega, ?_, fun d hd => ?_⟩
        · rw [kr_en_nI (by omega), if_neg (by rw [eq]; exact nI_ne0 e0 (by omega)), eq]
          exact pk_sub (a := q) (b := 1) e0
        · rw [hgo0 d hd]; omega
    obtain ⟨s, hs, es⟩ := hg k hk
    have hno : ∀ d, d ≤ 999 → d ≤ e → (kr_hd A g (nI k) d ↔ d ≤ s) := fun d hd h => by
      unfold kr_hd
      rw [kr_fm_no (fun w => absurd ((hgo d hd).mp w) (by omega)), es, nI_leI (by omega) (by omega)]
      exact ⟨fun w => w.2, fun w => ⟨kr_kn_ne (by omega), w⟩⟩
    have tail : ∀ h', e ≤ h' → h' ≤ 999 → ∃ r, h' ≤ r ∧ r ≤ 999 ∧ kr_lh A g 16 (A 4 k) (nI h') = nI r ∧ (∀ d, h' < d → d ≤ r → kr_hd A g (nI k) d) ∧ (r < 999 → ¬ kr_hd A g (nI k) (r + 1)) := by
      intro h' h1 h2
      rcases (hw.2.2.1 k hk).2.1 with e1 | ⟨j, hj, e1⟩
      · rw [e1, kr_lh_no]
        refine ⟨h', Nat.le_refl _, h2, rfl, fun d h3 h4 => by omega, fun h3 => ?_⟩
        unfold kr_hd
        rw [kr_fm_16 hw hk ((hgo (h' + 1) (by omega)).mpr (by omega)), e1, kr_fm_no kr_go_n]
        exact fun w => w.1 rfl
      · rw [e1]
        obtain ⟨r, a1, a2, a3, a4, a5⟩ := ih j hj (by omega) h' h2
        have same : ∀ d, h' < d → d ≤ 999 → (kr_hd A g (nI k) d ↔ kr_hd A g (nI j) d) := fun d h3 h4 => by
          unfold kr_hd
          rw [kr_fm_16 hw hk ((hgo d h4).mpr (by omega)), e1]
        exact ⟨r, a1, a2, a3, fun d h3 h4 => (same d h3 (by omega)).mpr (a4 d h3 h4), fun h3 w => a5 h3 ((same (r + 1) (by omega) (by omega)).mp w)⟩
    rw [kr_lh_16 hw hk, een, es]
    by_cases h1 : h < e
    · rw [if_pos (nI_lt h1 (by omega))]
      by_cases h2 : s < e
      · rw [if_pos (nI_lt h2 (by omega)), kr_mxN (by omega) (by omega)]
        refine ⟨max h s, by omega, by omega, rfl, fun d h3 h4 => (hno d (by omega) (by omega)).mpr (by omega), fun h3 w => ?_⟩
        have := (hno (max h s + 1) (by omega) (by omega)).mp w
        omega
      · rw [if_neg (nI_nlt (by omega) (by omega))]
        obtain ⟨r, a1, a2, a3, a4, a5⟩ := tail e (Nat.le_refl _) he
        refine ⟨r, by omega, a2, a3, fun d h3 h4 => ?_, a5⟩
        by_cases h5 : d ≤ e
        · exact (hno d (by omega) h5).mpr (by omega)
        · exact a4 d (by omega) h4
    · rw [if_neg (nI_nlt (by omega) (by omega))]
      exact tail h (by omega) hh
theorem kr_stN (hw : kr_wf N L A) (hx : kr_wx N L A) {q p k : Nat} (hq : q < L) (hp : p < kr_rc A q) (hk : k < N) : ∃ s, s ≤ 999 ∧ kr_st A q p (nI k) = nI s ∧ kr_st A q p (nI k) ≤ A 7 (5 * q + p) ∧ (0 < p → kr_st A q p (nI k) ≤ A 7 (5 * q + p - 1)) := by
  have h16 := hw.1
  have hL := hw.2.1
  obtain ⟨⟨e, e1, e2, e3⟩, -⟩ := hx.2.2.1 k hk
  obtain ⟨⟨z, z1, z2, z3⟩, -⟩ := hx.2.2.2 q hq p hp
  have key : ∀ y, y ≤ 999 → nI y * nI e / 100 = nI (y * e / 100) ∧ y * e / 100 ≤ y := fun y hy => by
    have h1 : y * e ≤ 999 * 100 := Nat.mul_le_mul hy e2
    have h2 : y * e ≤ y * 100 := Nat.mul_le_mul (Nat.le_refl _) e2
    refine ⟨?_, by omega⟩
    rw [pk_mul]
    exact pk_div (a := y * e) (d := 100) (by omega) (by omega) (by omega)
  by_cases h0 : p = 0
  · obtain ⟨k1, k2⟩ := key z z2
    have e9 : kr_st A q p (nI k) = nI (z * e / 100) := by rw [kr_st_0 h0 (by omega), e3, z3, k1]
    refine ⟨z * e / 100, by omega, e9, ?_, fun h => by omega⟩
    rw [e9, z3]; exact nI_le k2 (by omega)
  · obtain ⟨⟨z', y1, y2, y3⟩, -⟩ := hx.2.2.2 q hq (p - 1) (by omega)
    have y3 : A 7 (5 * q + p - 1) = nI z' := by rw [← y3]; congr 1; omega
    obtain ⟨k1, k2⟩ := key (min z z') (by omega)
    have e9 : kr_st A q p (nI k) = nI (min z z' * e / 100) := by rw [kr_st_s h0 (by omega), e3, z3, y3, kr_mnN (by omega) (by omega), k1]
    refine ⟨min z z' * e / 100, by omega, e9, ?_, fun _ => ?_⟩
    · rw [e9, z3]; exact nI_le (by omega) (by omega)
    · rw [e9, y3]; exact nI_le (by omega) (by omega)
theorem kr_pl2 (hw : kr_wf N L A) (hx : kr_wx N L A) {q : Nat} (hq : q < L) : ∀ (n pl c : Nat), pl + n = kr_rc A q → c ≤ 999 → ∃ u, u ≤ c ∧ kr_uw A q n pl (nI c) = nI u ∧ (∀ d, 1 ≤ d → d ≤ u → ∀ p, pl ≤ p → p < pl + n → kr_ph A q (nI d) p) ∧ (u < c → ∃ p, pl ≤ p ∧ p < pl + n ∧ ¬ kr_ph A q (nI (u + 1)) p)
  | 0, pl, c, h, hc => ⟨c, Nat.le_refl _, rfl, fun d h1 h2 p h3 h4 => by omega, fun h => by omega⟩
  | n + 1, pl, c, h, hc => by
    have h16 := hw.1
    obtain ⟨k, hk, ek⟩ := hw.tk hq (show pl < kr_rc A q by omega)
    obtain ⟨r, -, a2, a3, a4, a5⟩ := kr_pl1 hw (g := kr_st A q pl) (fun j hj => by
      obtain ⟨s, h1, h2, -⟩ := kr_stN hw hx hq (show pl < kr_rc A q by omega) hj
      exact ⟨s, h1, h2⟩) k hk 0 (by omega)
    have e1 : kr_uw A q (n + 1) pl (nI c) = kr_uw A q n (pl + 1) (nI (min c r)) := by
      show kr_uw A q n (pl + 1) (kr_mn (nI c) (kr_lh A (kr_st A q pl) 16 (A 6 (5 * q + pl)) 0)) = _
      rw [ek, show kr_lh A (kr_st A q pl) 16 (nI k) 0 = nI r from a3, kr_mnN (by omega) (by omega)]
    have hp : ∀ d, kr_hd A (kr_st A q pl) (nI k) d ↔ kr_ph A q (nI d) pl := fun d => by
      unfold kr_hd kr_ph
      rw [ek]
    obtain ⟨u, b1, b2, b3, b4⟩ := kr_pl2 hw hx hq n (pl + 1) (min c r) (by omega) (by omega)
    refine ⟨u, by omega, e1.trans b2, fun d h1 h2 p h3 h4 => ?_, fun hu => ?_⟩
    · by_cases e : p = pl
      · rw [e]; exact (hp d).mp (a4 d (by omega) (by omega))
      · exact b3 d h1 h2 p (by omega) (by omega)
    · by_cases h1 : u < min c r
      · obtain ⟨p, c1, c2, c3⟩ := b4 h1
        exact ⟨p, by omega, by omega, c3⟩
      · have e : u = r := by
          rcases Nat.le_total c r with w | w
          · rw [Nat.min_eq_left w] at h1 b1; omega
          · rw [Nat.min_eq_right w] at h1 b1; omega
        exact ⟨pl, Nat.le_refl _, by omega, fun w => a5 (by omega) (by rw [← e]; exact (hp _).mpr w)⟩
theorem kr_fg_all {q : Nat} : ∀ (n pl : Nat), (∀ p, pl ≤ p → p < pl + n → kr_ph A q ld p) → kr_fg A q ld n pl = -1
  | 0, _, _ => rfl
  | n + 1, pl, h => by
    show (if _ then _ else _) = _
    rw [if_pos (h pl (Nat.le_refl _) (by omega))]
    exact kr_fg_all n (pl + 1) (fun p h1 h2 => h p (by omega) (by omega))
theorem kr_gw_all {q : Nat} (hr : kr_rc A q ≤ 5) : kr_gw A q ld = -1 ↔ ∀ p, p < kr_rc A q → kr_ph A q ld p := by
  constructor
  · intro h
    rcases kr_fg_sp (A := A) (q := q) (ld := ld) (kr_rc A q) 0 (by omega) with ⟨-, h2⟩ | ⟨g, h1, h2, h3, -⟩
    · exact fun p hp => h2 p (Nat.zero_le _) (by omega)
    · rw [show kr_gw A q ld = nI g from h3] at h
      exact absurd h (kr_kn_ne (by omega))
  · intro h
    exact kr_fg_all _ 0 (fun p _ hp => h p (by omega))
/-- up to which load a line holds -/
theorem kr_huN (hw : kr_wf N L A) (hx : kr_wx N L A) {q : Nat} (hq : q < L) : ∃ u, u ≤ 999 ∧ kr_hu A q = nI u ∧ (kr_rc A q = 0 → u = 0) ∧ (∀ d, 1 ≤ d → d ≤ u → kr_gw A q (nI d) = -1) ∧ (0 < kr_rc A q → u < 999 → kr_gw A q (nI (u + 1)) ≠ -1) := by
  obtain ⟨hr5, er⟩ := hw.rc hq
  by_cases h0 : kr_rc A q = 0
  · refine ⟨0, by omega, ?_, fun _ => rfl, fun d h1 h2 => by omega, fun h => by omega⟩
    unfold kr_hu
    rw [h0, if_pos (by rw [er, h0]; rfl)]; rfl
  · obtain ⟨u, b1, b2, b3, b4⟩ := kr_pl2 hw hx hq (kr_rc A q) 0 999 (by omega) (Nat.le_refl _)
    refine ⟨u, b1, ?_, fun h => absurd h h0, fun d h1 h2 => (kr_gw_all hr5).mpr (fun p hp => b3 d h1 h2 p (Nat.zero_le _) (by omega)), fun _ hu w => ?_⟩
    · unfold kr_hu
      rw [if_neg (by rw [er]; exact nI_ne0 (by omega) (by omega))]
      exact b2
    · obtain ⟨p, -, c2, c3⟩ := b4 hu
      exact c3 ((kr_gw_all hr5).mp w p (by omega))
/-- the strongest line -/
theorem kr_sgN : ∀ (n l : Nat) (b : Int32), l + n < 2 ^ 31 → (l = 0 ∧ b = -1 ∨ ∃ j, j < l ∧ b = nI j ∧ ∀ i, i < l → (kr_hu A i).toInt < (kr_hu A j).toInt ∨ (kr_hu A i).toInt = (kr_hu A j).toInt ∧ j ≤ i) → (l + n = 0 ∧ kr_sg A n l b = -1 ∨ ∃ j, j < l + n ∧ kr_sg A n l b = nI j ∧ ∀ i, i < l + n → (kr_hu A i).toInt < (kr_hu A j).toInt ∨ (kr_hu A i).toInt = (kr_hu A j).toInt ∧ j ≤ i)
  | 0, l, b, _, h => by
    rcases h with ⟨h1, h2⟩ | ⟨j, h1, h2, h3⟩
    · exact Or.inl ⟨by omega, h2⟩
    · exact Or.inr ⟨j, by omega, h2, fun i hi => h3 i (by omega)⟩
  | n + 1, l, b, hl, h => by
    have e : kr_sg A (n + 1) l b = kr_sg A n (l + 1) (if b = -1 ∨ kr_hu A (kr_ix b) < kr_hu A l then nI l else b) := rfl
    rw [e]
    have h9 := kr_sgN n (l + 1) (if b = -1 ∨ kr_hu A (kr_ix b) < kr_hu A l then nI l else b) (by omega) (Or.inr ?_)
    · rw [show l + 1 + n = l + (n + 1) by omega] at h9
      exact h9
    · rcases h with ⟨h1, h2⟩ | ⟨j, h1, h2, h3⟩
      · rw [if_pos (Or.inl h2)]
        refine ⟨l, by omega, rfl, fun i hi => ?_⟩
        rw [show i = l by omega]; exact Or.inr ⟨rfl, Nat.le_refl _⟩
      · rw [h2, kr_ix_nI (by omega)]
        by_cases hlt : kr_hu A j < kr_hu A l
        · rw [if_pos (Or.inr hlt)]
          rw [Int32.lt_iff_toInt_lt] at hlt
          refine ⟨l, by omega, rfl, fun i hi => ?_⟩
          by_cases e2 : i = l
          · rw [e2]; exact Or.inr ⟨rfl, Nat.le_refl _⟩
          · have := h3 i (by omega)
            omega
        · rw [if_neg (fun w => w.elim (kr_kn_ne (by omega)) hlt)]
          rw [Int32.lt_iff_toInt_lt] at hlt
          refine ⟨j, by omega, rfl, fun i hi => ?_⟩
          by_cases e2 : i = l
          · rw [e2]; omega
          · exact h3 i (by omega)
theorem kr_sgO (h1 : 0 < L) (h2 : L ≤ 6) : ∃ j, j < L ∧ kr_sg A L 0 (-1) = nI j ∧ ∀ i, i < L → (kr_hu A i).toInt < (kr_hu A j).toInt ∨ (kr_hu A i).toInt = (kr_hu A j).toInt ∧ j ≤ i := by
  rcases kr_sgN (A := A) L 0 (-1) (by omega) (Or.inl ⟨rfl, rfl⟩) with ⟨h, -⟩ | ⟨j, a1, a2, a3⟩
  · omega
  · exact ⟨j, by omega, a2, fun i hi => a3 i (by omega)⟩
/-- the weakest place -/
theorem kr_wkN {q : Nat} : ∀ (n l : Nat) (b : Int32), l + n < 2 ^ 31 → (l = 0 ∧ b = -1 ∨ ∃ j, j < l ∧ b = nI j ∧ (∀ i, i < l → (kr_nw A q j).toInt ≤ (kr_nw A q i).toInt) ∧ ∀ i, i < j → (kr_nw A q j).toInt < (kr_nw A q i).toInt) → (l + n = 0 ∧ kr_wk A q n l b = -1 ∨ ∃ j, j < l + n ∧ kr_wk A q n l b = nI j ∧ (∀ i, i < l + n → (kr_nw A q j).toInt ≤ (kr_nw A q i).toInt) ∧ ∀ i, i < j → (kr_nw A q j).toInt < (kr_nw A q i).toInt)
  | 0, l, b, _, h => by
    rcases h with ⟨h1, h2⟩ | ⟨j, h1, h2, h3⟩
    · exact Or.inl ⟨by omega, h2⟩
    · exact Or.inr ⟨j, by omega, h2, h3⟩
  | n + 1, l, b, hl, h => by
    have e : kr_wk A q (n + 1) l b = kr_wk A q n (l + 1) (if b = -1 ∨ kr_nw A q l < kr_nw A q (kr_ix b) then nI l else b) := rfl
    rw [e]
    have h9 := kr_wkN (q := q) n (l + 1) (if b = -1 ∨ kr_nw A q l < kr_nw A q (kr_ix b) then nI l else b) (by omega) (Or.inr ?_)
    · rw [show l + 1 + n = l + (n + 1) by omega] at h9
      exact h9
    · rcases h with ⟨h1, h2⟩ | ⟨j, h1, h2, h3, h4⟩
      · rw [if_pos (Or.inl h2)]
        refine ⟨l, by omega, rfl, fun i hi => ?_, fun i hi => by omega⟩
        rw [show i = l by omega]; exact Int.le_refl _
      · rw [h2, kr_ix_nI (by omega)]
        by_cases hlt : kr_nw A q l < kr_nw A q j
        · rw [if_pos (Or.inr hlt)]
          rw [Int32.lt_iff_toInt_lt] at hlt
          refine ⟨l, by omega, rfl, fun i hi => ?_, fun i hi => ?_⟩
          · by_cases e2 : i = l
            · rw [e2]; exact Int.le_refl _
            · have := h3 i (by omega)
              omega
          · have := h3 i (by omega)
            omega
        · rw [if_neg (fun w => w.elim (kr_kn_ne (by omega)) hlt)]
          rw [Int32.lt_iff_toInt_lt] at hlt
          refine ⟨j, by omega, rfl, fun i hi => ?_, h4⟩
          by_cases e2 : i = l
          · rw [e2]; omega
          · exact h3 i (by omega)
theorem kr_wkO {q : Nat} (hr : kr_rc A q ≤ 5) : (kr_rc A q = 0 ∧ kr_wk A q (kr_rc A q) 0 (-1) = -1) ∨ ∃ j, j < kr_rc A q ∧ kr_wk A q (kr_rc A q) 0 (-1) = nI j ∧ (∀ i, i < kr_rc A q → (kr_nw A q j).toInt ≤ (kr_nw A q i).toInt) ∧ ∀ i, i < j → (kr_nw A q j).toInt < (kr_nw A q i).toInt := by
  rcases kr_wkN (A := A) (q := q) (kr_rc A q) 0 (-1) (by omega) (Or.inl ⟨rfl, rfl⟩) with ⟨h1, h2⟩ | ⟨j, a1, a2, a3, a4⟩
  · exact Or.inl ⟨by omega, h2⟩
  · exact Or.inr ⟨j, by omega, a2, fun i hi => a3 i (by omega), a4⟩
end KRF
end
section
/-! what the calls that write keep; the rows by hand behind them -/
def kr_ad (ad : Nat → Nat → Nat) (i k q : Nat) : Nat → Nat → Nat := va_up ad i (va_up (ad i) k q)
section KRA
variable {N L q r k : Nat} {A : Nat → Nat → Int32} {x y z ld : Int32}
theorem kr_aA_o {i : Nat} (h : i ≠ N) (j : Nat) : kr_aA A N x y z j i = A j i := by
  unfold kr_aA kr_up
  by_cases h4 : j = 4
  · rw [if_pos h4, pk_un h, h4]
  · rw [if_neg h4]
    by_cases h3 : j = 3
    · rw [if_pos h3, pk_un h, h3]
    · rw [if_neg h3]
      by_cases h2 : j = 2
      · rw [if_pos h2, pk_un h, h2]
      · rw [if_neg h2]
        by_cases h1 : j = 1
        · rw [if_pos h1, pk_un h, h1]
        · rw [if_neg h1]
          by_cases h0 : j = 0
          · rw [if_pos h0, pk_un h, h0]
          · rw [if_neg h0]
theorem kr_sA_o {i : Nat} (h : i ≠ k) (j : Nat) : kr_sA A k y z j i = A j i := by
  unfold kr_sA kr_up
  by_cases h4 : j = 4
  · rw [if_pos h4, pk_un h, h4]
  · rw [if_neg h4]
    by_cases h3 : j = 3
    · rw [if_pos h3, pk_un h, h3]
    · rw [if_neg h3]
theorem kr_jA_5 {i j : Nat} (h : j < 5) : kr_jA A q r k z j i = A j i := by
  unfold kr_jA kr_up
  rw [if_neg (by omega), if_neg (by omega), if_neg (by omega)]
theorem kr_rA_5 {i j n : Nat} (h : j < 5) : kr_rA A n k j i = A j i := by
  unfold kr_rA kr_up
  rw [if_neg (by omega)]
theorem kr_pB_5 {i j n : Nat} (h : j < 5) : kr_pB A q ld n j i = A j i := by
  unfold kr_pB kr_up
  rw [if_neg (by omega), if_neg (by omega)]
theorem kr_jA_rc {i : Nat} (hr : r < 5) : kr_rc (kr_jA A q r k z) i = if i = q then r + 1 else kr_rc A i := by
  show kr_ix (upd (A 5) q (nI (r + 1)) i) = _
  by_cases e : i = q
  · rw [e, pk_us, if_pos rfl, kr_ix_nI (by omega)]
  · rw [pk_un e, if_neg e]; rfl
theorem kr_pB_rc {i n : Nat} (hr : kr_rc A q ≤ 5) : kr_rc (kr_pB A q ld n) i = if i = q then kr_pr' A q ld else kr_rc A i := by
  have h := (kr_pr_le (ld := ld) hr).1
  show kr_ix (upd (A 5) q (nI (kr_pr' A q ld)) i) = _
  by_cases e : i = q
  · rw [e, pk_us, if_pos rfl, kr_ix_nI (by omega)]
  · rw [pk_un e, if_neg e]; rfl
theorem kr_wx_a (hw : kr_wf N L A) (hx : kr_wx N L A) (h0 : N = 0 → x = 0) (h1 : N = 1 → x = 1) (hy : ∃ e, 10 ≤ e ∧ e ≤ 100 ∧ y = nI e) (hz : ∃ e, 1 ≤ e ∧ e ≤ 9 ∧ z = nI e) : kr_wx (N + 1) L (kr_aA A N x y z) := by
  have h16 := hw.1
  obtain ⟨a1, a2, a3, a4⟩ := hx
  refine ⟨fun _ => ?_, fun h => ?_, fun k hk => ?_, fun q hq p hp => ?_⟩
  · by_cases e : N = 0
    · rw [e]; show upd (A 0) 0 x 0 = 0; rw [pk_us]; exact h0 e
    · rw [kr_aA_o (Ne.symm e)]; exact a1 (by omega)
  · by_cases e : N = 1
    · rw [e]; show upd (A 0) 1 x 1 = 1; rw [pk_us]; exact h1 e
    · rw [kr_aA_o (Ne.symm e)]; exact a2 (by omega)
  · by_cases e : k = N
    · rw [e]
      refine ⟨?_, ?_, fun j hj h => ?_⟩
      · show ∃ q, 10 ≤ q ∧ q ≤ 100 ∧ upd (A 1) N y N = nI q
        rw [pk_us]; exact hy
      · show ∃ q, 1 ≤ q ∧ q ≤ 9 ∧ upd (A 2) N z N = nI q
        rw [pk_us]; exact hz
      · have h : upd (A 4) N (-1) N = nI j := h
        rw [pk_us] at h
        exact absurd h.symm (kr_kn_ne (by omega))
    · rw [kr_aA_o e, kr_aA_o e, kr_aA_o e, kr_aA_o e]
      refine ⟨(a3 k (by omega)).1, (a3 k (by omega)).2.1, fun j hj h => ?_⟩
      rw [kr_aA_o (by omega)]
      exact (a3 k (by omega)).2.2 j hj h
  · obtain ⟨b1, b2⟩ := a4 q hq p hp
    refine ⟨b1, fun k hk h => ?_⟩
    have h : A 6 (5 * q + p) = nI k := h
    obtain ⟨k0, c1, c2⟩ := hw.tk hq (show p < kr_rc A q from hp)
    have e : k0 = k := (nI_eq (by omega) (by omega)).mp (c2.symm.trans h)
    rw [kr_aA_o (by omega)]
    exact b2 k (by omega) h
theorem kr_wx_s (hx : kr_wx N L A) (hz : z = -1 ∨ ∃ j, j < k ∧ z = nI j ∧ A 0 j = A 0 k) (hk : k < 2 ^ 31) : kr_wx N L (kr_sA A k y z) := by
  obtain ⟨a1, a2, a3, a4⟩ := hx
  refine ⟨a1, a2, fun i hi => ⟨(a3 i hi).1, (a3 i hi).2.1, fun j hj h => ?_⟩, a4⟩
  show A 0 j = A 0 i
  have h : upd (A 4) k z i = nI j := h
  by_cases e : i = k
  · subst e
    rw [pk_us] at h
    rcases hz with h1 | ⟨j2, h1, h2, h3⟩
    · rw [h1] at h; exact absurd h.symm (kr_kn_ne (by omega))
    · have : j2 = j := (nI_eq (by omega) (by omega)).mp (h2.symm.trans h)
      rw [← this]; exact h3
  · rw [pk_un e] at h
    exact (a3 i hi).2.2 j hj h
theorem kr_wx_r (hw : kr_wf N L A) (hx : kr_wx N L A) {p : Nat} (hq : q < L) (hp : p < kr_rc A q) (hk : k < N) (he : A 0 k = if p = 0 then 1 else 0) : kr_wx N L (kr_rA A (5 * q + p) k) := by
  have h16 := hw.1
  obtain ⟨a1, a2, a3, a4⟩ := hx
  refine ⟨a1, a2, a3, fun q2 hq2 p2 hp2 => ⟨(a4 q2 hq2 p2 hp2).1, fun k2 hk2 h => ?_⟩⟩
  have hp2 : p2 < kr_rc A q2 := hp2
  have r1 := (hw.rc hq).1
  have r2 := (hw.rc hq2).1
  show A 0 k2 = _
  have h : upd (A 6) (5 * q + p) (nI k) (5 * q2 + p2) = nI k2 := h
  by_cases e : 5 * q2 + p2 = 5 * q + p
  · rw [e, pk_us] at h
    have e2 : k = k2 := (nI_eq (by omega) (by omega)).mp h
    rw [← e2, he, show p2 = p by omega]
  · rw [pk_un e] at h
    exact (a4 q2 hq2 p2 hp2).2 k2 hk2 h
/-- one rope more: at a line's end, or a new line's first -/
theorem kr_wx_j {M : Nat} (hw : kr_wf N L A) (hx : kr_wx N L A) (hq : q < M) (hM : ∀ i, i < M → i = q ∨ i < L) (hr : r < 5) (hrc : q < L → kr_rc A q = r) (hr0 : ¬ q < L → r = 0) (hk : k < N) (he : A 0 k = if r = 0 then 1 else 0) (hz : ∃ e, 1 ≤ e ∧ e ≤ 999 ∧ z = nI e) : kr_wx N M (kr_jA A q r k z) := by
  have h16 := hw.1
  obtain ⟨a1, a2, a3, a4⟩ := hx
  refine ⟨a1, a2, a3, fun q2 hq2 p2 hp2 => ?_⟩
  rw [kr_jA_rc hr] at hp2
  show (∃ z1, 1 ≤ z1 ∧ z1 ≤ 999 ∧ upd (A 7) (5 * q + r) z (5 * q2 + p2) = nI z1) ∧ ∀ k1, k1 < N → upd (A 6) (5 * q + r) (nI k) (5 * q2 + p2) = nI k1 → A 0 k1 = if p2 = 0 then 1 else 0
  by_cases e : q2 = q
  · rw [if_pos e] at hp2
    subst e
    by_cases e2 : p2 = r
    · subst e2
      rw [pk_us, pk_us]
      refine ⟨hz, fun k1 h1 h2 => ?_⟩
      rw [← (nI_eq (by omega) (by omega)).mp h2]; exact he
    · rw [pk_un (by omega), pk_un (by omega)]
      by_cases h1 : q2 < L
      · exact a4 q2 h1 p2 (by rw [hrc h1]; omega)
      · have := hr0 h1; omega
  · rw [if_neg e] at hp2
    have h1 : q2 < L := (hM q2 hq2).elim (fun w => absurd w e) id
    have r2 := (hw.rc h1).1
    rw [pk_un (by omega), pk_un (by omega)]
    exact a4 q2 h1 p2 hp2
theorem kr_wx_p (hw : kr_wf N L A) (hx : kr_wx N L A) (hq : q < L) {n : Nat} (hn : n ≤ kr_pr' A q ld) : kr_wx N L (kr_pB A q ld n) := by
  have h16 := hw.1
  have r1 := (hw.rc hq).1
  have hpr := kr_pr_le (ld := ld) r1
  have hx0 := hx
  obtain ⟨a1, a2, a3, a4⟩ := hx
  refine ⟨a1, a2, a3, fun q2 hq2 p2 hp2 => ?_⟩
  rw [kr_pB_rc r1] at hp2
  have r2 := (hw.rc hq2).1
  have hp3 : p2 < kr_rc A q2 := by
    by_cases e : q2 = q
    · rw [if_pos e] at hp2; rw [e]; omega
    · rw [if_neg e] at hp2; exact hp2
  refine ⟨(a4 q2 hq2 p2 hp3).1, fun k1 h1 h2 => ?_⟩
  show A 0 k1 = _
  have h2 : kr_pf A q ld n (5 * q2 + p2) = nI k1 := h2
  unfold kr_pf at h2
  by_cases e : 5 * q ≤ 5 * q2 + p2 ∧ 5 * q2 + p2 < 5 * q + n
  · rw [if_pos e] at h2
    obtain ⟨k0, c1, c2⟩ := hw.tk hq2 hp3
    rw [c2] at h2
    rcases kr_pf1 (ld := ld) hw hx0 k0 c1 with w | ⟨j, j1, j2, j3, -⟩
    · rw [w] at h2; exact absurd h2.symm (kr_kn_ne (by omega))
    · have e2 : j = k1 := (nI_eq (by omega) (by omega)).mp (j2.symm.trans h2)
      rw [← e2, j3]
      exact (a4 q2 hq2 p2 hp3).2 k0 c1 c2
  · rw [if_neg e] at h2
    exact (a4 q2 hq2 p2 hp3).2 k1 h1 h2
/-- a pull: what is left does not spill under the load, and holds it -/
theorem kr_pA_6 (hw : kr_wf N L A) (hx : kr_wx N L A) (hq : q < L) {p : Nat} (hp : p < kr_pr' A q ld) : kr_pA A q ld 6 (5 * q + p) = kr_fm A ld 16 (A 6 (5 * q + p)) ∧ ∃ j, j < N ∧ kr_fm A ld 16 (A 6 (5 * q + p)) = nI j ∧ ¬ kr_go A ld (nI j) := by
  have h16 := hw.1
  have r1 := (hw.rc hq).1
  have hpr := kr_pr_le (ld := ld) r1
  refine ⟨if_pos ⟨by omega, by omega⟩, ?_⟩
  obtain ⟨k0, c1, c2⟩ := hw.tk hq (show p < kr_rc A q by omega)
  rcases kr_pf1 (ld := ld) hw hx k0 c1 with w | ⟨j, j1, j2, j3, j4⟩
  · exact absurd (by rw [c2]; exact w) (hpr.2 p hp).1
  · exact ⟨j, by omega, by rw [c2]; exact j2, j4⟩
theorem kr_pA_gw (hw : kr_wf N L A) (hx : kr_wx N L A) (hq : q < L) : kr_gw (kr_pA A q ld) q ld = -1 := by
  have h16 := hw.1
  have r1 := (hw.rc hq).1
  have hpr := kr_pr_le (ld := ld) r1
  have hrc : kr_rc (kr_pA A q ld) q = kr_pr' A q ld := by unfold kr_pA; rw [kr_pB_rc r1, if_pos rfl]
  refine (kr_gw_all (by omega)).mpr (fun p hp => ?_)
  rw [hrc] at hp
  obtain ⟨e6, j, h1, h2, h3⟩ := kr_pA_6 (ld := ld) hw hx hq hp
  have e3 : kr_pA A q ld 3 = A 3 := rfl
  have e4 : kr_pA A q ld 4 = A 4 := rfl
  have est : kr_st (kr_pA A q ld) q p = kr_st A q p := rfl
  have hph := hpr.2 p hp
  unfold kr_ph at hph ⊢
  rw [e6, kr_fm_cg e3 e4, h2, kr_fm_no h3, est]
  rw [h2] at hph
  exact hph
theorem kr_pA_pr (hw : kr_wf N L A) (hx : kr_wx N L A) (hq : q < L) : kr_pr' (kr_pA A q ld) q ld = kr_pr' A q ld := by
  have r1 := (hw.rc hq).1
  have hrc : kr_rc (kr_pA A q ld) q = kr_pr' A q ld := by unfold kr_pA; rw [kr_pB_rc r1, if_pos rfl]
  unfold kr_pr'
  rw [if_pos (kr_pA_gw hw hx hq), hrc]
  rfl
theorem kr_pA_pA (hw : kr_wf N L A) (hx : kr_wx N L A) (hq : q < L) : kr_pA (kr_pA A q ld) q ld = kr_pA A q ld := by
  have h16 := hw.1
  have r1 := (hw.rc hq).1
  have hpr := kr_pr_le (ld := ld) r1
  have e3 : kr_pA A q ld 3 = A 3 := rfl
  have e4 : kr_pA A q ld 4 = A 4 := rfl
  have e5 : upd (kr_pA A q ld 5) q (nI (kr_pr' A q ld)) = kr_pA A q ld 5 := by
    show upd (upd (A 5) q (nI (kr_pr' A q ld))) q (nI (kr_pr' A q ld)) = upd (A 5) q (nI (kr_pr' A q ld))
    rw [kr_upd_tw]
  have e6 : kr_pf (kr_pA A q ld) q ld (kr_pr' A q ld) = kr_pA A q ld 6 := by
    funext j
    unfold kr_pf
    by_cases e : 5 * q ≤ j ∧ j < 5 * q + kr_pr' A q ld
    · rw [if_pos e]
      obtain ⟨p, rfl⟩ : ∃ p, j = 5 * q + p := ⟨j - 5 * q, by omega⟩
      obtain ⟨f6, i, h1, h2, h3⟩ := kr_pA_6 (ld := ld) hw hx hq (show p < kr_pr' A q ld by omega)
      rw [f6, kr_fm_cg e3 e4, h2, kr_fm_no h3]
    · rw [if_neg e]
  have e7 : kr_pA (kr_pA A q ld) q ld = kr_up (kr_up (kr_pA A q ld) 5 (upd (kr_pA A q ld 5) q (nI (kr_pr' A q ld)))) 6 (kr_pf (kr_pA A q ld) q ld (kr_pr' A q ld)) := by
    show kr_up (kr_up (kr_pA A q ld) 5 (upd (kr_pA A q ld 5) q (nI (kr_pr' (kr_pA A q ld) q ld)))) 6 (kr_pf (kr_pA A q ld) q ld (kr_pr' (kr_pA A q ld) q ld)) = _
    rw [kr_pA_pr hw hx hq]
  rw [e7, e5, e6, kr_up_id, kr_up_id]
end KRA
end
