abbrev kr_new (s : State) : Nat → Prop := fun q => s.heap.size ≤ q
theorem kr_keep {s : State} {H : Heap} {locs : List Loc} (hS : va_S (kr_new s) s.heap H locs) : ∀ q : Nat, q < s.heap.size → H[q]? = s.heap[q]? := fun q hq => hS.2.1 q hq (Nat.not_le.mpr hq)
theorem kg_RL_28 : GoodIn kr_all (wsV RL 28 RX0 yX0_addKnot (Cond.code yX0_addKnot cX0_addKnot 5 (some .int) :: kr_all)) := kr_gV kq_470 kq_471 kq_472 kq_25 kq_473
set_option maxHeartbeats 4000000 in
set_option maxRecDepth 100000 in
theorem act_c0a {p : Program} {l : Launch} {e : Env} {s : State} {m : MethodId} {below : List Frame} {meth : Method} {c : Code} {ls : Array Slot} {D : va_G} {cy cz : ClassId} {h g N L q k d : Nat} {a : Nat → Nat} {ad : Nat → Nat → Nat} {A : Nat → Nat → Int32} {x : Int32} {AA : Nat → Prop} (hl0 : l.stackTraces = false) (hx : p.tables.exec = Jvm.exec) (hb : c.code = cL_act) (hml : c.maxLocals = 10) (hr : meth.sig.returnType = some .boolean) (hts : ∀ w ∈ kr_all, w.before #[Value.ref h, Value.ref g, Value.int x] s = true) (hown : s.vm.findClass RL = some m.cls) (hlocks : meth.locks = false) (htab : c.exceptionTable.toList = tableOf kr_hh) (hA : ∀ q : Nat, s.heap.size ≤ q → AA q) (hK : va_K D vwCl [(cy, .int), (cz, .array .int)] s) (hZ : kr_AO s) (hT : kr_T s) (hw : kr_wf N L A) (hx0 : kr_wx N L A) (hN2 : 2 ≤ N) (hL1 : 1 ≤ L) (hq : q < L) (hk : k < N) (hd1 : 1 ≤ d) (hd2 : d ≤ 999) (hJ : va_P D vwCl (kr_JW cy cz h a g ad N L A) s.heap) (hD : va_D AA (kr_JW cy cz h a g ad N L A)) (hS : va_S AA s.heap s.heap []) (hl : lv_has ls 10 [(0, .ref h), (1, .ref g), (2, .int x), (3, .int (nI N)), (4, .int (nI q)), (5, .int (nI k)), (6, .int (nI d)), (7, .int (if N < 16 then (1 : Int32) else 0))]) (hN16 : N < 16) : W p l e ({ frames := 10, cells := 20, slots := 80, locals := 300 } : Room) s m #[Value.ref h, Value.ref g, Value.int x] below meth c s.heap [] 0 0 (MQ below (kr_AQ D cy cz h a g AA) #[Value.ref h, Value.ref g, Value.int x] s 20 80 AA) (F0 m 160 ls []) := by
  have hN := hw.1
  have hL := hw.2.1
  obtain ⟨hrc, er⟩ := hw.rc hq
  have hP : va_P D vwCl (kr_SW cy cz g ad N L A) s.heap := kr_Pr hJ
  have h16 : N < 16 := hN16
  rw [if_pos h16] at hl
  refine lv_iconst (v := 5) hx hb dL_act_160 (by decide) ?_
  refine kr_newF (BB := AA) hx hb hts hK hJ hD hA hS 5 (by decide) (by decide) (by decide) (Nat.le_of_ble_eq_true rfl) (Nat.le_of_ble_eq_true rfl) dL_act_161 (fun q9 H hqq9 hJ hD hS => ?_)
  refine lv_dup hx hb dL_act_163 rfl ?_
  refine lv_iconst (v := 0) hx hb dL_act_164 (by decide) ?_
  refine lv_iload_n hx hb dL_act_165 rfl (lv_at hl 2 rfl) ?_
  refine lv_iconst (v := 4) hx hb dL_act_166 (by decide) ?_
  refine lv_ishr hx hb dL_act_167 ?_
  refine lv_iconst (v := 2) hx hb dL_act_168 (by decide) ?_
  refine kr_sI (n := 2) (As := [.int (x >>> (4 &&& 31)), .int 2]) (rest := [.int 0, .ref q9, .ref q9]) ⟨hx, hb, hml, hown, hts⟩ (c_L_below l (x >>> (4 &&& 31)) 2 (by omega) (by omega)) kg_RL_18 ⟨rfl, rfl⟩ (by decide +kernel) ⟨Nat.le_of_ble_eq_true rfl, Nat.le_of_ble_eq_true rfl⟩ ⟨kr_blT, fun U hU hW => ⟨rfl, trivial⟩⟩ rfl hl.1 rfl (Nat.le_of_ble_eq_true rfl) dL_act_169 ⟨Nat.le_of_ble_eq_true rfl, Nat.le_of_ble_eq_true rfl⟩ (fun r9 e9 => ?_)
  obtain ⟨kd, hkd, rfl⟩ := e9
  refine kr_astF (tys := [(cz, .array .int)]) hx hb hK hJ hD hS (hA q9 hqq9) ((kr_JW cy cz h a g ad N L A).length + 0) (kr_gr rfl) 0 (by decide) (by decide) dL_act_172 (fun H locs hJ hD hS => ?_)
  rw [kr_lset1] at hJ hD
  refine lv_dup hx hb dL_act_173 rfl ?_
  refine lv_iconst (v := 1) hx hb dL_act_174 (by decide) ?_
  refine lv_bipush (v := 10) hx hb dL_act_175 (by decide) ?_
  refine lv_iload_n hx hb dL_act_177 rfl (lv_at hl 2 rfl) ?_
  refine lv_iconst (v := 5) hx hb dL_act_178 (by decide) ?_
  refine lv_ishr hx hb dL_act_179 ?_
  refine lv_bipush (v := 91) hx hb dL_act_180 (by decide) ?_
  refine kr_sI (n := 2) (As := [.int (x >>> (5 &&& 31)), .int 91]) (rest := [.int 10, .int 1, .ref q9, .ref q9]) ⟨hx, hb, hml, hown, hts⟩ (c_L_below l (x >>> (5 &&& 31)) 91 (by omega) (by omega)) kg_RL_18 ⟨rfl, rfl⟩ (by decide +kernel) ⟨Nat.le_of_ble_eq_true rfl, Nat.le_of_ble_eq_true rfl⟩ ⟨kr_blT, fun U hU hW => ⟨rfl, trivial⟩⟩ rfl hl.1 rfl (Nat.le_of_ble_eq_true rfl) dL_act_182 ⟨Nat.le_of_ble_eq_true rfl, Nat.le_of_ble_eq_true rfl⟩ (fun r9 e9 => ?_)
  obtain ⟨je, hje, rfl⟩ := e9
  refine kr_iaddN hx hb 10 je dL_act_185 ?_
  refine kr_astF (tys := [(cz, .array .int)]) hx hb hK hJ hD hS (hA q9 hqq9) ((kr_JW cy cz h a g ad N L A).length + 0) (kr_gr rfl) 1 (by decide) (by decide) dL_act_186 (fun H locs hJ hD hS => ?_)
  rw [kr_lset1] at hJ hD
  refine lv_dup hx hb dL_act_187 rfl ?_
  refine lv_iconst (v := 2) hx hb dL_act_188 (by decide) ?_
  refine lv_iconst (v := 1) hx hb dL_act_189 (by decide) ?_
  refine lv_iload_n hx hb dL_act_190 rfl (lv_at hl 2 rfl) ?_
  refine lv_bipush (v := 7) hx hb dL_act_191 (by decide) ?_
  refine lv_ishr hx hb dL_act_193 ?_
  refine lv_bipush (v := 9) hx hb dL_act_194 (by decide) ?_
  refine kr_sI (n := 2) (As := [.int (x >>> (7 &&& 31)), .int 9]) (rest := [.int 1, .int 2, .ref q9, .ref q9]) ⟨hx, hb, hml, hown, hts⟩ (c_L_below l (x >>> (7 &&& 31)) 9 (by omega) (by omega)) kg_RL_18 ⟨rfl, rfl⟩ (by decide +kernel) ⟨Nat.le_of_ble_eq_true rfl, Nat.le_of_ble_eq_true rfl⟩ ⟨kr_blT, fun U hU hW => ⟨rfl, trivial⟩⟩ rfl hl.1 rfl (Nat.le_of_ble_eq_true rfl) dL_act_196 ⟨Nat.le_of_ble_eq_true rfl, Nat.le_of_ble_eq_true rfl⟩ (fun r9 e9 => ?_)
  obtain ⟨jc, hjc, rfl⟩ := e9
  refine kr_iaddN hx hb 1 jc dL_act_199 ?_
  refine kr_astF (tys := [(cz, .array .int)]) hx hb hK hJ hD hS (hA q9 hqq9) ((kr_JW cy cz h a g ad N L A).length + 0) (kr_gr rfl) 2 (by decide) (by decide) dL_act_200 (fun H locs hJ hD hS => ?_)
  rw [kr_lset1] at hJ hD
  refine lv_dup hx hb dL_act_201 rfl ?_
  refine lv_iconst (v := 3) hx hb dL_act_202 (by decide) ?_
  refine lv_iconst (v := 0) hx hb dL_act_203 (by decide) ?_
  refine kr_astF (tys := [(cz, .array .int)]) hx hb hK hJ hD hS (hA q9 hqq9) ((kr_JW cy cz h a g ad N L A).length + 0) (kr_gr rfl) 3 (by decide) (by decide) dL_act_204 (fun H locs hJ hD hS => ?_)
  rw [kr_lset1] at hJ hD
  refine lv_dup hx hb dL_act_205 rfl ?_
  refine lv_iconst (v := 4) hx hb dL_act_206 (by decide) ?_
  refine lv_iconst (v := -1) hx hb dL_act_207 (by decide) ?_
  refine kr_astF (tys := [(cz, .array .int)]) hx hb hK hJ hD hS (hA q9 hqq9) ((kr_JW cy cz h a g ad N L A).length + 0) (kr_gr rfl) 4 (by decide) (by decide) dL_act_208 (fun H locs hJ hD hS => ?_)
  rw [kr_lset1] at hJ hD
  have hkd2 : nI kd = 0 ∨ nI kd = 1 := by rcases (show kd = 0 ∨ kd = 1 by omega) with e | e; rw [e]; exact Or.inl rfl; rw [e]; exact Or.inr rfl
  refine lv_astore (lv' := [(8, .ref q9), (0, .ref h), (1, .ref g), (2, .int x), (3, .int (nI N)), (4, .int (nI q)), (5, .int (nI k)), (6, .int (nI d)), (7, .int 1)]) hx hb dL_act_209 hl (by decide) rfl (fun ls hl => ?_)
  refine lv_iload hx hb dL_act_211 (lv_at hl 8 rfl) ?_
  refine lv_if_eq (tgt := 229) hx hb dL_act_213 (by decide) (fun c213 => absurd c213 (by decide)) (fun c213 => ?_)
  have hP : va_P D vwCl (kr_SG cy cz g ad N L L A (kr_rc A) (kr_rc A)) H := kr_Pr (kr_Pl hJ)
  refine lv_aload_n hx hb dL_act_216 rfl (lv_at hl 2 rfl) ?_
  refine lv_aload_n hx hb dL_act_217 rfl (lv_at hl 2 rfl) ?_
  refine va_get (ci := 1) (v := .ref (ad 0 0)) (C := RX1) (T := TX1) (N := 3) hx hb hts kr_wsX1 hown hK hP 0 rfl rfl 0 (by decide) (hts _ kq_512) (fun _ h9 => h9) rfl dL_act_218 ?_
  refine lv_aload hx hb dL_act_221 (lv_at hl 0 rfl) ?_
  refine kr_sNR (n := 2) (mc := 1) (ms := 17) (BB := AA) (As := [.ref (ad 0 0), .ref q9]) (rest := [.ref g]) ⟨hx, hb, hml, hown, hts⟩ (c_X1_with l _ D cy cz _ (9 + 1) (ad 0 0) N q9 (fun k => some (ad (0 + 1) k)) (kr_gl (kr_gr (ws := kr_W0 cy h a N L A) (i := 1) rfl)) (by omega) (fun i9 hi9 => ⟨_, _, _, rfl, List.mem_of_getElem? (kr_gl (kr_gr (ws := kr_W0 cy h a N L A) (kr_gK hi9)))⟩) ⟨_, _, List.mem_of_getElem? (kr_gr (i := 0) rfl)⟩) kgs_RL_24 ⟨rfl, rfl⟩ (by decide +kernel) ⟨Nat.le_of_ble_eq_true rfl, Nat.le_of_ble_eq_true rfl⟩ hJ hK hD hA hZ hS hA rfl hl.1 rfl (Nat.le_of_ble_eq_true rfl) dL_act_223 ⟨Nat.le_of_ble_eq_true rfl, Nat.le_of_ble_eq_true rfl⟩ (fun oq9 H locs hk9 hJ hD hS => ?_)
  clear hk9
  refine kr_wnK (n1 := 0) (w := kr_W0 cy h a N L A) hx hb hts hown (hts _ kq_512) hK hJ hD hS (fun j hj => by rw [if_neg (by omega), if_pos hj]) (if_pos rfl) (kr_aA A N (nI kd) (nI (10 + je)) (nI (1 + jc))) (fun j hj => ?_) (fun i hi j hj => kr_aA_o (by omega) j) (fun i hi j hj => rfl) (fun i hi j hj => rfl) dL_act_226 (fun H locs hJ hD hS => ?_)
  · rcases (show j = 0 ∨ j = 1 ∨ j = 2 ∨ j = 3 ∨ j = 4 by omega) with rfl | rfl | rfl | rfl | rfl
    · show nI kd = upd (A 0) N (nI kd) N
      exact (pk_us (f := A 0)).symm
    · show nI (10 + je) = upd (A 1) N (nI (10 + je)) N
      exact (pk_us (f := A 1)).symm
    · show nI (1 + jc) = upd (A 2) N (nI (1 + jc)) N
      exact (pk_us (f := A 2)).symm
    · show 0 = upd (A 3) N 0 N
      exact (pk_us (f := A 3)).symm
    · show -1 = upd (A 4) N (-1) N
      exact (pk_us (f := A 4)).symm
  · obtain ⟨ad2, had2⟩ : ∃ z, z = kr_ad (kr_ad ad 1 N q9) 0 0 oq9 := ⟨_, rfl⟩
    rw [← had2] at hJ hD
    have e8 : ad2 1 N = q9 := by rw [had2, kr_adN _ (by decide), kr_ad0]
    rw [← e8] at hl
    have hJ : va_P D vwCl (kr_W0 cy h a N L A ++ kr_SW cy cz g ad2 (N + 1) L (kr_aA A N (nI kd) (nI (10 + je)) (nI (1 + jc)))) H := hJ
    have hD : va_D AA (kr_W0 cy h a N L A ++ kr_SW cy cz g ad2 (N + 1) L (kr_aA A N (nI kd) (nI (10 + je)) (nI (1 + jc)))) := hD
    have hP : va_P D vwCl (kr_SW cy cz g ad2 (N + 1) L (kr_aA A N (nI kd) (nI (10 + je)) (nI (1 + jc)))) H := kr_Pr hJ
    refine lv_aload_n hx hb dL_act_229 rfl (lv_at hl 1 rfl) ?_
    refine lv_aload hx hb dL_act_230 (lv_at hl 0 rfl) ?_
    refine lv_iconst (v := 0) hx hb dL_act_232 (by decide) ?_
    refine kr_rdK hx hb hK hP (k := N) (by omega) 0 (by decide) dL_act_233 ?_
    rw [show (kr_aA A N (nI kd) (nI (10 + je)) (nI (1 + jc))) 0 N = nI kd from pk_us]
    refine lv_aload hx hb dL_act_234 (lv_at hl 0 rfl) ?_
    refine lv_iconst (v := 1) hx hb dL_act_236 (by decide) ?_
    refine kr_rdK hx hb hK hP (k := N) (by omega) 1 (by decide) dL_act_237 ?_
    rw [show (kr_aA A N (nI kd) (nI (10 + je)) (nI (1 + jc))) 1 N = nI (10 + je) from pk_us]
    refine lv_aload hx hb dL_act_238 (lv_at hl 0 rfl) ?_
    refine lv_iconst (v := 2) hx hb dL_act_240 (by decide) ?_
    refine kr_rdK hx hb hK hP (k := N) (by omega) 2 (by decide) dL_act_241 ?_
    rw [show (kr_aA A N (nI kd) (nI (10 + je)) (nI (1 + jc))) 2 N = nI (1 + jc) from pk_us]
    refine kr_jwI (n := 3) (As := [.int (nI kd), .int (nI (10 + je)), .int (nI (1 + jc))]) (rest := []) ⟨hx, hb, hml, hown, hts⟩ (c_X0_addKnot l D cy h a N L A _ (nI kd) (nI (10 + je)) (nI (1 + jc)) hkd2 (kr_rgN (lo := 10) (hi := 100) (by omega) (by omega) (by decide)) (kr_rgN (lo := 1) (hi := 9) (by omega) (by omega) (by decide)) h16) kg_RL_28 ⟨rfl, rfl⟩ (by decide +kernel) ⟨Nat.le_of_ble_eq_true rfl, Nat.le_of_ble_eq_true rfl⟩ hJ hK hD hS hA rfl hl.1 rfl (Nat.le_of_ble_eq_true rfl) dL_act_242 ⟨Nat.le_of_ble_eq_true rfl, Nat.le_of_ble_eq_true rfl⟩ (fun r9 H locs e9 hJ hD hS => ?_)
    subst e9
    refine lv_iload_n hx hb dL_act_245 rfl (lv_at hl 4 rfl) ?_
    refine lv_icmp_ne (tgt := 258) hx hb dL_act_246 (by decide) (fun c246 => absurd rfl c246) (fun c246 => ?_)
    refine lv_iload hx hb dL_act_249 (lv_at hl 8 rfl) ?_
    refine lv_if_eq (tgt := 258) hx hb dL_act_251 (by decide) (fun c251 => absurd c251 (by decide)) (fun c251 => ?_)
    refine lv_iconst (v := 1) hx hb dL_act_254 (by decide) ?_
    refine lv_goto (tgt := 259) hx hb dL_act_255 (by decide) ?_
    refine W.widen (k := 20) (n := 80) (Nat.le_of_ble_eq_true rfl) (Nat.le_of_ble_eq_true rfl) ?_
    exact kr_aE (N + 1, L, kr_aA A N (nI kd) (nI (10 + je)) (nI (1 + jc)), ad2) hx hb hr hlocks hJ hD hS ⟨kr_wf_a hw h16 hkd2, kr_wx_a hw hx0 (fun w => by omega) (fun w => by omega) ⟨10 + je, by omega, by omega, rfl⟩ ⟨1 + jc, by omega, by omega, rfl⟩, (show 2 ≤ N + 1 by omega), hL1⟩ dL_act_259
set_option maxHeartbeats 4000000 in
set_option maxRecDepth 100000 in
theorem act_c0b {p : Program} {l : Launch} {e : Env} {s : State} {m : MethodId} {below : List Frame} {meth : Method} {c : Code} {ls : Array Slot} {D : va_G} {cy cz : ClassId} {h g N L q k d : Nat} {a : Nat → Nat} {ad : Nat → Nat → Nat} {A : Nat → Nat → Int32} {x : Int32} {AA : Nat → Prop} (hl0 : l.stackTraces = false) (hx : p.tables.exec = Jvm.exec) (hb : c.code = cL_act) (hml : c.maxLocals = 10) (hr : meth.sig.returnType = some .boolean) (hts : ∀ w ∈ kr_all, w.before #[Value.ref h, Value.ref g, Value.int x] s = true) (hown : s.vm.findClass RL = some m.cls) (hlocks : meth.locks = false) (htab : c.exceptionTable.toList = tableOf kr_hh) (hA : ∀ q : Nat, s.heap.size ≤ q → AA q) (hK : va_K D vwCl [(cy, .int), (cz, .array .int)] s) (hZ : kr_AO s) (hT : kr_T s) (hw : kr_wf N L A) (hx0 : kr_wx N L A) (hN2 : 2 ≤ N) (hL1 : 1 ≤ L) (hq : q < L) (hk : k < N) (hd1 : 1 ≤ d) (hd2 : d ≤ 999) (hJ : va_P D vwCl (kr_JW cy cz h a g ad N L A) s.heap) (hD : va_D AA (kr_JW cy cz h a g ad N L A)) (hS : va_S AA s.heap s.heap []) (hl : lv_has ls 10 [(0, .ref h), (1, .ref g), (2, .int x), (3, .int (nI N)), (4, .int (nI q)), (5, .int (nI k)), (6, .int (nI d)), (7, .int (if N < 16 then (1 : Int32) else 0))]) (hN16 : ¬ N < 16) : W p l e ({ frames := 10, cells := 20, slots := 80, locals := 300 } : Room) s m #[Value.ref h, Value.ref g, Value.int x] below meth c s.heap [] 0 0 (MQ below (kr_AQ D cy cz h a g AA) #[Value.ref h, Value.ref g, Value.int x] s 20 80 AA) (F0 m 160 ls []) := by
  have hN := hw.1
  have hL := hw.2.1
  obtain ⟨hrc, er⟩ := hw.rc hq
  have hP : va_P D vwCl (kr_SW cy cz g ad N L A) s.heap := kr_Pr hJ
  have h16 : N = 16 := by omega
  rw [if_neg (show ¬ N < 16 by omega)] at hl
  refine lv_iconst (v := 5) hx hb dL_act_160 (by decide) ?_
  have hSA := hS
  have hS : va_S (kr_new s) s.heap s.heap [] := va_S.rf
  have hP9 : va_P D vwCl [] s.heap := fun k q h9 => by simp at h9
  have hD9 : va_D (kr_new s) [] := ⟨fun i j p1 q1 h9 => by simp at h9, fun k1 q1 h9 => by simp at h9⟩
  refine kr_newF (BB := kr_new s) hx hb hts hK hP9 hD9 (fun _ h9 => h9) hS 5 (by decide) (by decide) (by decide) (Nat.le_of_ble_eq_true rfl) (Nat.le_of_ble_eq_true rfl) dL_act_161 (fun q9 H hqq9 hP9 hD9 hS => ?_)
  have hP9 : va_P D vwCl [(q9, .inl (cy, 5, .inl (fun _ => 0)))] H := hP9
  have hD9 : va_D (kr_new s) [(q9, .inl (cy, 5, .inl (fun _ => 0)))] := hD9
  refine lv_dup hx hb dL_act_163 rfl ?_
  refine lv_iconst (v := 0) hx hb dL_act_164 (by decide) ?_
  refine lv_iload_n hx hb dL_act_165 rfl (lv_at hl 2 rfl) ?_
  refine lv_iconst (v := 4) hx hb dL_act_166 (by decide) ?_
  refine lv_ishr hx hb dL_act_167 ?_
  refine lv_iconst (v := 2) hx hb dL_act_168 (by decide) ?_
  refine kr_sI (n := 2) (As := [.int (x >>> (4 &&& 31)), .int 2]) (rest := [.int 0, .ref q9, .ref q9]) ⟨hx, hb, hml, hown, hts⟩ (c_L_below l (x >>> (4 &&& 31)) 2 (by omega) (by omega)) kg_RL_18 ⟨rfl, rfl⟩ (by decide +kernel) ⟨Nat.le_of_ble_eq_true rfl, Nat.le_of_ble_eq_true rfl⟩ ⟨kr_blT, fun U hU hW => ⟨rfl, trivial⟩⟩ rfl hl.1 rfl (Nat.le_of_ble_eq_true rfl) dL_act_169 ⟨Nat.le_of_ble_eq_true rfl, Nat.le_of_ble_eq_true rfl⟩ (fun r9 e9 => ?_)
  obtain ⟨kd, hkd, rfl⟩ := e9
  refine kr_astF (tys := [(cz, .array .int)]) hx hb hK hP9 hD9 hS hqq9 0 rfl 0 (by decide) (by decide) dL_act_172 (fun H locs hP9 hD9 hS => ?_)
  have hP9 : va_P D vwCl [(q9, .inl (cy, 5, .inl (upd (fun _ => 0) 0 (nI kd))))] H := hP9
  have hD9 : va_D (kr_new s) [(q9, .inl (cy, 5, .inl (upd (fun _ => 0) 0 (nI kd))))] := hD9
  refine lv_dup hx hb dL_act_173 rfl ?_
  refine lv_iconst (v := 1) hx hb dL_act_174 (by decide) ?_
  refine lv_bipush (v := 10) hx hb dL_act_175 (by decide) ?_
  refine lv_iload_n hx hb dL_act_177 rfl (lv_at hl 2 rfl) ?_
  refine lv_iconst (v := 5) hx hb dL_act_178 (by decide) ?_
  refine lv_ishr hx hb dL_act_179 ?_
  refine lv_bipush (v := 91) hx hb dL_act_180 (by decide) ?_
  refine kr_sI (n := 2) (As := [.int (x >>> (5 &&& 31)), .int 91]) (rest := [.int 10, .int 1, .ref q9, .ref q9]) ⟨hx, hb, hml, hown, hts⟩ (c_L_below l (x >>> (5 &&& 31)) 91 (by omega) (by omega)) kg_RL_18 ⟨rfl, rfl⟩ (by decide +kernel) ⟨Nat.le_of_ble_eq_true rfl, Nat.le_of_ble_eq_true rfl⟩ ⟨kr_blT, fun U hU hW => ⟨rfl, trivial⟩⟩ rfl hl.1 rfl (Nat.le_of_ble_eq_true rfl) dL_act_182 ⟨Nat.le_of_ble_eq_true rfl, Nat.le_of_ble_eq_true rfl⟩ (fun r9 e9 => ?_)
  obtain ⟨je, hje, rfl⟩ := e9
  refine kr_iaddN hx hb 10 je dL_act_185 ?_
  refine kr_astF (tys := [(cz, .array .int)]) hx hb hK hP9 hD9 hS hqq9 0 rfl 1 (by decide) (by decide) dL_act_186 (fun H locs hP9 hD9 hS => ?_)
  have hP9 : va_P D vwCl [(q9, .inl (cy, 5, .inl (upd (upd (fun _ => 0) 0 (nI kd)) 1 (nI (10 + je)))))] H := hP9
  have hD9 : va_D (kr_new s) [(q9, .inl (cy, 5, .inl (upd (upd (fun _ => 0) 0 (nI kd)) 1 (nI (10 + je)))))] := hD9
  refine lv_dup hx hb dL_act_187 rfl ?_
  refine lv_iconst (v := 2) hx hb dL_act_188 (by decide) ?_
  refine lv_iconst (v := 1) hx hb dL_act_189 (by decide) ?_
  refine lv_iload_n hx hb dL_act_190 rfl (lv_at hl 2 rfl) ?_
  refine lv_bipush (v := 7) hx hb dL_act_191 (by decide) ?_
  refine lv_ishr hx hb dL_act_193 ?_
  refine lv_bipush (v := 9) hx hb dL_act_194 (by decide) ?_
  refine kr_sI (n := 2) (As := [.int (x >>> (7 &&& 31)), .int 9]) (rest := [.int 1, .int 2, .ref q9, .ref q9]) ⟨hx, hb, hml, hown, hts⟩ (c_L_below l (x >>> (7 &&& 31)) 9 (by omega) (by omega)) kg_RL_18 ⟨rfl, rfl⟩ (by decide +kernel) ⟨Nat.le_of_ble_eq_true rfl, Nat.le_of_ble_eq_true rfl⟩ ⟨kr_blT, fun U hU hW => ⟨rfl, trivial⟩⟩ rfl hl.1 rfl (Nat.le_of_ble_eq_true rfl) dL_act_196 ⟨Nat.le_of_ble_eq_true rfl, Nat.le_of_ble_eq_true rfl⟩ (fun r9 e9 => ?_)
  obtain ⟨jc, hjc, rfl⟩ := e9
  refine kr_iaddN hx hb 1 jc dL_act_199 ?_
  refine kr_astF (tys := [(cz, .array .int)]) hx hb hK hP9 hD9 hS hqq9 0 rfl 2 (by decide) (by decide) dL_act_200 (fun H locs hP9 hD9 hS => ?_)
  have hP9 : va_P D vwCl [(q9, .inl (cy, 5, .inl (upd (upd (upd (fun _ => 0) 0 (nI kd)) 1 (nI (10 + je))) 2 (nI (1 + jc)))))] H := hP9
  have hD9 : va_D (kr_new s) [(q9, .inl (cy, 5, .inl (upd (upd (upd (fun _ => 0) 0 (nI kd)) 1 (nI (10 + je))) 2 (nI (1 + jc)))))] := hD9
  refine lv_dup hx hb dL_act_201 rfl ?_
  refine lv_iconst (v := 3) hx hb dL_act_202 (by decide) ?_
  refine lv_iconst (v := 0) hx hb dL_act_203 (by decide) ?_
  refine kr_astF (tys := [(cz, .array .int)]) hx hb hK hP9 hD9 hS hqq9 0 rfl 3 (by decide) (by decide) dL_act_204 (fun H locs hP9 hD9 hS => ?_)
  have hP9 : va_P D vwCl [(q9, .inl (cy, 5, .inl (upd (upd (upd (upd (fun _ => 0) 0 (nI kd)) 1 (nI (10 + je))) 2 (nI (1 + jc))) 3 0)))] H := hP9
  have hD9 : va_D (kr_new s) [(q9, .inl (cy, 5, .inl (upd (upd (upd (upd (fun _ => 0) 0 (nI kd)) 1 (nI (10 + je))) 2 (nI (1 + jc))) 3 0)))] := hD9
  refine lv_dup hx hb dL_act_205 rfl ?_
  refine lv_iconst (v := 4) hx hb dL_act_206 (by decide) ?_
  refine lv_iconst (v := -1) hx hb dL_act_207 (by decide) ?_
  refine kr_astF (tys := [(cz, .array .int)]) hx hb hK hP9 hD9 hS hqq9 0 rfl 4 (by decide) (by decide) dL_act_208 (fun H locs hP9 hD9 hS => ?_)
  have hP9 : va_P D vwCl [(q9, .inl (cy, 5, .inl (upd (upd (upd (upd (upd (fun _ => 0) 0 (nI kd)) 1 (nI (10 + je))) 2 (nI (1 + jc))) 3 0) 4 (-1))))] H := hP9
  have hD9 : va_D (kr_new s) [(q9, .inl (cy, 5, .inl (upd (upd (upd (upd (upd (fun _ => 0) 0 (nI kd)) 1 (nI (10 + je))) 2 (nI (1 + jc))) 3 0) 4 (-1))))] := hD9
  have hkd2 : nI kd = 0 ∨ nI kd = 1 := by rcases (show kd = 0 ∨ kd = 1 by omega) with e | e; rw [e]; exact Or.inl rfl; rw [e]; exact Or.inr rfl
  refine lv_astore (lv' := [(8, .ref q9), (0, .ref h), (1, .ref g), (2, .int x), (3, .int (nI N)), (4, .int (nI q)), (5, .int (nI k)), (6, .int (nI d)), (7, .int 0)]) hx hb dL_act_209 hl (by decide) rfl (fun ls hl => ?_)
  refine lv_iload hx hb dL_act_211 (lv_at hl 8 rfl) ?_
  refine lv_if_eq (tgt := 229) hx hb dL_act_213 (by decide) (fun c213 => ?_) (fun c213 => absurd rfl c213)
  refine lv_aload_n hx hb dL_act_229 rfl (lv_at hl 1 rfl) ?_
  refine lv_aload hx hb dL_act_230 (lv_at hl 0 rfl) ?_
  refine lv_iconst (v := 0) hx hb dL_act_232 (by decide) ?_
  refine kr_ald hx hb hK hP9 0 0 rfl rfl 0 (by decide) (by decide) dL_act_233 ?_
  show W _ _ _ _ _ _ _ _ _ _ _ _ _ _ _ (F0 _ _ _ (.int (nI kd) :: _))
  refine lv_aload hx hb dL_act_234 (lv_at hl 0 rfl) ?_
  refine lv_iconst (v := 1) hx hb dL_act_236 (by decide) ?_
  refine kr_ald hx hb hK hP9 0 0 rfl rfl 1 (by decide) (by decide) dL_act_237 ?_
  show W _ _ _ _ _ _ _ _ _ _ _ _ _ _ _ (F0 _ _ _ (.int (nI (10 + je)) :: _))
  refine lv_aload hx hb dL_act_238 (lv_at hl 0 rfl) ?_
  refine lv_iconst (v := 2) hx hb dL_act_240 (by decide) ?_
  refine kr_ald hx hb hK hP9 0 0 rfl rfl 2 (by decide) (by decide) dL_act_241 ?_
  show W _ _ _ _ _ _ _ _ _ _ _ _ _ _ _ (F0 _ _ _ (.int (nI (1 + jc)) :: _))
  have hJ := kr_kp hJ (kr_keep hS)
  have hkS := kr_keep hS
  have hS := kr_Swk hS hA
  have hcd : kr_cd (nI kd = 0 ∨ nI kd = 1) ((¬ nI (10 + je) < 10 ∧ ¬ 100 < nI (10 + je)) ∧ (¬ nI (1 + jc) < 1 ∧ ¬ 9 < nI (1 + jc))) (N < 16) = 3 := kr_cd3 hkd2 ⟨kr_rgN (lo := 10) (hi := 100) (by omega) (by omega) (by decide), kr_rgN (lo := 1) (hi := 9) (by omega) (by omega) (by decide)⟩ (by omega)
  have hXm := x_X0_addKnot l hl0 D cy h a N L A (nI kd) (nI (10 + je)) (nI (1 + jc)) hN (by rw [hcd]; decide)
  rw [hcd] at hXm
  refine kr_ax (n := 3) (As := [.int (nI kd), .int (nI (10 + je)), .int (nI (1 + jc))]) (rest := []) ⟨hx, hb, hml, hown, hts⟩ hXm kg_RL_28 ⟨rfl, rfl⟩ (by decide +kernel) ⟨Nat.le_of_ble_eq_true rfl, Nat.le_of_ble_eq_true rfl⟩ (kr_Pl hJ) hK hT hkS rfl hl.1 rfl (Nat.le_of_ble_eq_true rfl) dL_act_242 ⟨Nat.le_of_ble_eq_true rfl, Nat.le_of_ble_eq_true rfl⟩ htab [] ⟨91, 259, 842, 62⟩ [⟨260, 265, 842, 62⟩, ⟨266, 366, 842, 62⟩, ⟨367, 384, 842, 62⟩, ⟨385, 473, 842, 62⟩, ⟨474, 500, 842, 62⟩, ⟨501, 627, 842, 62⟩, ⟨628, 648, 842, 62⟩, ⟨649, 691, 842, 62⟩, ⟨692, 736, 842, 62⟩, ⟨737, 746, 842, 62⟩, ⟨747, 841, 842, 62⟩] rfl (by decide) (by decide) rfl rfl (fun q8 H1 hz8 hk8 => ?_)
  have hJ := kr_kp hJ hk8
  have hS := kr_Sk hS hz8 hk8
  refine lv_astore (lv' := [(8, .ref q8), (0, .ref h), (1, .ref g), (2, .int x), (3, .int (nI N)), (4, .int (nI q)), (5, .int (nI k)), (6, .int (nI d)), (7, .int 0)]) hx hb dL_act_842 hl (by decide) rfl (fun ls hl => ?_)
  refine lv_iload hx hb dL_act_844 (lv_at hl 8 rfl) ?_
  refine lv_if_ne (tgt := 853) hx hb dL_act_846 (by decide) (fun c846 => absurd rfl c846) (fun c846 => ?_)
  refine lv_iconst (v := 1) hx hb dL_act_849 (by decide) ?_
  refine lv_goto (tgt := 854) hx hb dL_act_850 (by decide) ?_
  refine W.widen (k := 20) (n := 80) (Nat.le_of_ble_eq_true rfl) (Nat.le_of_ble_eq_true rfl) ?_
  exact kr_aE (N, L, A, ad) hx hb hr hlocks hJ hD hS ⟨hw, hx0, hN2, hL1⟩ dL_act_854
/-- act's start -/
def kr_Aw (D : va_G) (ws : va_W) (cy cz : ClassId) (sz : Nat) (U : State) : Prop := U.heap.size = sz ∧ va_P D vwCl ws U.heap ∧ va_K D vwCl [(cy, .int), (cz, .array .int)] U ∧ va_D (fun _ => True) ws ∧ kr_AO U ∧ kr_T U
theorem kr_bla {D : va_G} {ws : va_W} {cy cz : ClassId} {sz : Nat} {av : List Value} : FrameBlind (va_Pc av (kr_Aw D ws cy cz sz)) := fun a U g mk q => ⟨q.1, q.2.1, q.2.2.1, va_K.moved (u := U) (U := U.calling g mk a) (Vm.Alike.refl U.vm) q.2.2.2.1, q.2.2.2.2.1, q.2.2.2.2.2.1.calling g mk a, q.2.2.2.2.2.2.calling g mk a⟩
set_option maxHeartbeats 4000000 in
set_option maxRecDepth 100000 in
theorem c_L_act (l : Launch) (hl0 : l.stackTraces = false) (D : va_G) (cy cz : ClassId) (h : Nat) (a : Nat → Nat) (g : Nat) (ad : Nat → Nat → Nat) (N L : Nat) (A : Nat → Nat → Int32) (sz : Nat) (x : Int32) (hw : kr_wf N L A) (hx0 : kr_wx N L A) (hN2 : 2 ≤ N) (hL1 : 1 ≤ L) : Met l yL_act (Cond.codeWith yL_act cL_act 10 (some .boolean) kr_hh :: kr_all) ({ frames := 10, cells := 20, slots := 80, locals := 300 } : Room) (va_Pc [.ref h, .ref g, .int x] (kr_Aw D (kr_JW cy cz h a g ad N L A) cy cz sz)) (kr_AQ D cy cz h a g (va_A (kr_JW cy cz h a g ad N L A) sz)) 20 80 (va_A (kr_JW cy cz h a g ad N L A) sz) := by
  refine va_MetW (cc := cL_act) (maxL := 10) (ret := some .boolean) (hh := kr_hh) (by decide) rfl ?_
  intro p e s m args below meth c s₁ B hml hv
  obtain ⟨rfl, hsz, hJ, hK, hD0, hZ, hT⟩ := hv
  subst hsz
  have hts0 := atoms_spec (ws := Cond.codeWith yL_act cL_act 10 (some .boolean) kr_hh :: kr_all) B.pre
  have hl := lv_entry [.ref h, .ref g, .int x] (n := 10) (Nat.le_of_ble_eq_true rfl)
  rw [lg_entry_eq]
  have hx := B.exec
  have hb := B.bytes
  have hr := B.returns
  have hts : ∀ w ∈ kr_all, w.before #[Value.ref h, Value.ref g, Value.int x] s = true := fun w h9 => hts0 w (List.mem_cons_of_mem _ h9)
  have hown : s.vm.findClass RL = some m.cls := findClass_of_methodNamed B.named
  have hlocks := B.notSynchronized
  have htab : c.exceptionTable.toList = tableOf kr_hh := vx_table (x := yL_act) B (hts0 _ List.mem_cons_self)
  have hD := hD0.self (sz := s.heap.size)
  generalize hAe : va_A (kr_JW cy cz h a g ad N L A) s.heap.size = AA at hD ⊢
  have hA : ∀ q : Nat, s.heap.size ≤ q → AA q := fun q h9 => by rw [← hAe]; exact Or.inr h9
  have hS : va_S AA s.heap s.heap [] := va_S.rf
  generalize (lg_sl [.ref h, .ref g, .int x] ++ List.replicate (10 - (lg_sl [.ref h, .ref g, .int x]).length) Slot.unset).toArray = ls at hl ⊢
  have hl : lv_has ls 10 [(0, .ref h), (1, .ref g), (2, .int x)] := hl
  show W p l e ({ frames := 10, cells := 20, slots := 80, locals := 300 } : Room) s m #[Value.ref h, Value.ref g, Value.int x] below meth c s.heap [] 0 0 (MQ below (kr_AQ D cy cz h a g AA) #[Value.ref h, Value.ref g, Value.int x] s 20 80 AA) (F0 m 0 ls [])
  have hN := hw.1
  have hL := hw.2.1
  have hP : va_P D vwCl (kr_SW cy cz g ad N L A) s.heap := kr_Pr hJ
  refine lv_aload_n hx hb dL_act_0 rfl (lv_at hl 1 rfl) ?_
  refine va_get (ci := 1) (v := .ref (ad 0 0)) (C := RX1) (T := TX1) (N := 3) hx hb hts kr_wsX1 hown hK hP 0 rfl rfl 0 (by decide) (hts _ kq_512) (fun _ h9 => h9) rfl dL_act_1 ?_
  refine kr_lnO hx hb hK hP 0 N rfl dL_act_4 ?_
  refine lv_istore_n (lv' := [(3, .int (nI N)), (0, .ref h), (1, .ref g), (2, .int x)]) hx hb dL_act_5 rfl hl (by decide) rfl (fun ls hl => ?_)
  refine lv_aload_n hx hb dL_act_6 rfl (lv_at hl 2 rfl) ?_
  refine va_get (ci := 1) (v := .ref (ad 0 1)) (C := RX1) (T := TX1) (N := 3) hx hb hts kr_wsX1 hown hK hP 0 rfl rfl 1 (by decide) (hts _ kq_514) (fun _ h9 => h9) rfl dL_act_7 ?_
  refine kr_lnO hx hb hK hP 1 L rfl dL_act_10 ?_
  refine lv_if_ne (tgt := 18) hx hb dL_act_11 (by decide) (fun c11 => ?_) (fun c11 => absurd ((nI_eq (a := L) (b := 0) (by omega) (by decide)).mp c11) (by omega))
  refine lv_iload_n hx hb dL_act_18 rfl (lv_at hl 3 rfl) ?_
  refine lv_iconst (v := 3) hx hb dL_act_19 (by decide) ?_
  refine lv_ishr hx hb dL_act_20 ?_
  refine lv_aload_n hx hb dL_act_21 rfl (lv_at hl 2 rfl) ?_
  refine va_get (ci := 1) (v := .ref (ad 0 1)) (C := RX1) (T := TX1) (N := 3) hx hb hts kr_wsX1 hown hK hP 0 rfl rfl 1 (by decide) (hts _ kq_514) (fun _ h9 => h9) rfl dL_act_22 ?_
  refine kr_lnO hx hb hK hP 1 L rfl dL_act_25 ?_
  refine kr_sI (n := 2) (As := [.int (x >>> (3 &&& 31)), .int (nI L)]) (rest := []) ⟨hx, hb, hml, hown, hts⟩ (c_L_below l (x >>> (3 &&& 31)) L (by omega) (by omega)) kg_RL_18 ⟨rfl, rfl⟩ (by decide +kernel) ⟨Nat.le_of_ble_eq_true rfl, Nat.le_of_ble_eq_true rfl⟩ ⟨kr_blT, fun U hU hW => ⟨rfl, trivial⟩⟩ rfl hl.1 rfl (Nat.le_of_ble_eq_true rfl) dL_act_26 ⟨Nat.le_of_ble_eq_true rfl, Nat.le_of_ble_eq_true rfl⟩ (fun r9 e9 => ?_)
  obtain ⟨q, hq, rfl⟩ := e9
  refine lv_istore (lv' := [(4, .int (nI q)), (3, .int (nI N)), (0, .ref h), (1, .ref g), (2, .int x)]) hx hb dL_act_29 hl (by decide) rfl (fun ls hl => ?_)
  refine lv_iload_n hx hb dL_act_31 rfl (lv_at hl 1 rfl) ?_
  refine lv_if_ne (tgt := 39) hx hb dL_act_32 (by decide) (fun c32 => ?_) (fun c32 => absurd ((nI_eq (a := N) (b := 0) (by omega) (by decide)).mp c32) (by omega))
  refine lv_iload_n hx hb dL_act_39 rfl (lv_at hl 4 rfl) ?_
  refine lv_iconst (v := 5) hx hb dL_act_40 (by decide) ?_
  refine lv_ishr hx hb dL_act_41 ?_
  refine lv_iload_n hx hb dL_act_42 rfl (lv_at hl 1 rfl) ?_
  refine kr_sI (n := 2) (As := [.int (x >>> (5 &&& 31)), .int (nI N)]) (rest := []) ⟨hx, hb, hml, hown, hts⟩ (c_L_below l (x >>> (5 &&& 31)) N (by omega) (by omega)) kg_RL_18 ⟨rfl, rfl⟩ (by decide +kernel) ⟨Nat.le_of_ble_eq_true rfl, Nat.le_of_ble_eq_true rfl⟩ ⟨kr_blT, fun U hU hW => ⟨rfl, trivial⟩⟩ rfl hl.1 rfl (Nat.le_of_ble_eq_true rfl) dL_act_43 ⟨Nat.le_of_ble_eq_true rfl, Nat.le_of_ble_eq_true rfl⟩ (fun r9 e9 => ?_)
  obtain ⟨k, hk, rfl⟩ := e9
  refine lv_istore (lv' := [(5, .int (nI k)), (4, .int (nI q)), (3, .int (nI N)), (0, .ref h), (1, .ref g), (2, .int x)]) hx hb dL_act_46 hl (by decide) rfl (fun ls hl => ?_)
  refine lv_iconst (v := 1) hx hb dL_act_48 (by decide) ?_
  refine lv_iload_n hx hb dL_act_49 rfl (lv_at hl 5 rfl) ?_
  refine lv_bipush (v := 6) hx hb dL_act_50 (by decide) ?_
  refine lv_ishr hx hb dL_act_52 ?_
  refine lv_iload_n hx hb dL_act_53 rfl (lv_at hl 5 rfl) ?_
  refine lv_iconst (v := 4) hx hb dL_act_54 (by decide) ?_
  refine lv_ishr hx hb dL_act_55 ?_
  refine lv_iconst (v := 2) hx hb dL_act_56 (by decide) ?_
  refine kr_sI (n := 2) (As := [.int (x >>> (4 &&& 31)), .int 2]) (rest := [.int (x >>> (6 &&& 31)), .int 1]) ⟨hx, hb, hml, hown, hts⟩ (c_L_below l (x >>> (4 &&& 31)) 2 (by omega) (by omega)) kg_RL_18 ⟨rfl, rfl⟩ (by decide +kernel) ⟨Nat.le_of_ble_eq_true rfl, Nat.le_of_ble_eq_true rfl⟩ ⟨kr_blT, fun U hU hW => ⟨rfl, trivial⟩⟩ rfl hl.1 rfl (Nat.le_of_ble_eq_true rfl) dL_act_57 ⟨Nat.le_of_ble_eq_true rfl, Nat.le_of_ble_eq_true rfl⟩ (fun r9 e9 => ?_)
  obtain ⟨j2, hj2, rfl⟩ := e9
  refine kr_jn (pcJ := 72) (stJ := [.int (x >>> (6 &&& 31)), .int 1]) (fun v => ∃ j, 0 < j ∧ j ≤ 999 ∧ v = nI j) (fun v hv => ?_) (fun kJ => ?_)
  · obtain ⟨jm, hjm0, hjm1, rfl⟩ := hv
    refine kr_sI (n := 2) (As := [.int (x >>> (6 &&& 31)), .int (nI jm)]) (rest := [.int 1]) ⟨hx, hb, hml, hown, hts⟩ (c_L_below l (x >>> (6 &&& 31)) jm (by omega) (by omega)) kg_RL_18 ⟨rfl, rfl⟩ (by decide +kernel) ⟨Nat.le_of_ble_eq_true rfl, Nat.le_of_ble_eq_true rfl⟩ ⟨kr_blT, fun U hU hW => ⟨rfl, trivial⟩⟩ rfl hl.1 rfl (Nat.le_of_ble_eq_true rfl) dL_act_72 ⟨Nat.le_of_ble_eq_true rfl, Nat.le_of_ble_eq_true rfl⟩ (fun r9 e9 => ?_)
    obtain ⟨j3, hj3, rfl⟩ := e9
    refine kr_iaddN hx hb 1 j3 dL_act_75 ?_
    obtain ⟨d, hd0⟩ : ∃ z, z = 1 + j3 := ⟨_, rfl⟩
    rw [← hd0]
    have hd1 : 1 ≤ d := by omega
    have hd2 : d ≤ 999 := by omega
    refine lv_istore (lv' := [(6, .int (nI d)), (5, .int (nI k)), (4, .int (nI q)), (3, .int (nI N)), (0, .ref h), (1, .ref g), (2, .int x)]) hx hb dL_act_76 hl (by decide) rfl (fun ls hl => ?_)
    refine lv_iload_n hx hb dL_act_78 rfl (lv_at hl 3 rfl) ?_
    refine lv_bipush (v := 16) hx hb dL_act_79 (by decide) ?_
    refine kr_jn (pcJ := 89) (stJ := []) (fun v => v = if N < 16 then (1 : Int32) else 0) (fun v hv => ?_) (fun kC => ?_)
    · subst hv
      refine lv_istore (lv' := [(7, .int (if N < 16 then (1 : Int32) else 0)), (6, .int (nI d)), (5, .int (nI k)), (4, .int (nI q)), (3, .int (nI N)), (0, .ref h), (1, .ref g), (2, .int x)]) hx hb dL_act_89 hl (by decide) rfl (fun ls hl => ?_)
      refine lv_iload_n hx hb dL_act_91 rfl (lv_at hl 7 rfl) ?_
      refine lv_bipush (v := 16) hx hb dL_act_92 (by decide) ?_
      refine kr_sI (n := 2) (As := [.int x, .int 16]) (rest := []) ⟨hx, hb, hml, hown, hts⟩ (c_L_below l x 16 (by omega) (by omega)) kg_RL_18 ⟨rfl, rfl⟩ (by decide +kernel) ⟨Nat.le_of_ble_eq_true rfl, Nat.le_of_ble_eq_true rfl⟩ ⟨kr_blT, fun U hU hW => ⟨rfl, trivial⟩⟩ rfl hl.1 rfl (Nat.le_of_ble_eq_true rfl) dL_act_94 ⟨Nat.le_of_ble_eq_true rfl, Nat.le_of_ble_eq_true rfl⟩ (fun r9 e9 => ?_)
      obtain ⟨t, ht, rfl⟩ := e9
      have hl := lv_sub hl [5, 6, 7, 4, 3, 2, 1, 0] rfl
      rcases (show t = 0 ∨ t = 1 ∨ t = 2 ∨ t = 3 ∨ t = 4 ∨ t = 5 ∨ t = 6 ∨ t = 7 ∨ t = 8 ∨ t = 9 ∨ t = 10 ∨ t = 11 ∨ t = 12 ∨ t = 13 ∨ t = 14 ∨ t = 15 by omega) with rfl | rfl | rfl | rfl | rfl | rfl | rfl | rfl | rfl | rfl | rfl | rfl | rfl | rfl | rfl | rfl
      · exact lv_tableIn (off := 63) (tgt := 160) hx hb dL_act_97 (by decide) (by decide) rfl (by decide) (by by_cases h16 : N < 16; exact act_c0a hl0 hx hb hml hr hts hown hlocks htab hA hK hZ hT hw hx0 hN2 hL1 hq hk hd1 hd2 hJ hD hS hl h16; exact act_c0b hl0 hx hb hml hr hts hown hlocks htab hA hK hZ hT hw hx0 hN2 hL1 hq hk hd1 hd2 hJ hD hS hl h16)
      · exact lv_tableIn (off := 63) (tgt := 160) hx hb dL_act_97 (by decide) (by decide) rfl (by decide) (by by_cases h16 : N < 16; exact act_c0a hl0 hx hb hml hr hts hown hlocks htab hA hK hZ hT hw hx0 hN2 hL1 hq hk hd1 hd2 hJ hD hS hl h16; exact act_c0b hl0 hx hb hml hr hts hown hlocks htab hA hK hZ hT hw hx0 hN2 hL1 hq hk hd1 hd2 hJ hD hS hl h16)
      · exact lv_tableIn (off := 163) (tgt := 260) hx hb dL_act_97 (by decide) (by decide) rfl (by decide) (act_c2 hl0 hx hb hml hr hts hown hlocks htab hA hK hZ hT hw hx0 hN2 hL1 hq hk hd1 hd2 hJ hD hS hl)
      · exact lv_tableIn (off := 163) (tgt := 260) hx hb dL_act_97 (by decide) (by decide) rfl (by decide) (act_c2 hl0 hx hb hml hr hts hown hlocks htab hA hK hZ hT hw hx0 hN2 hL1 hq hk hd1 hd2 hJ hD hS hl)
      · exact lv_tableIn (off := 270) (tgt := 367) hx hb dL_act_97 (by decide) (by decide) rfl (by decide) (act_c4 hl0 hx hb hml hr hts hown hlocks htab hA hK hZ hT hw hx0 hN2 hL1 hq hk hd1 hd2 hJ hD hS hl)
      · exact lv_tableIn (off := 270) (tgt := 367) hx hb dL_act_97 (by decide) (by decide) rfl (by decide) (act_c4 hl0 hx hb hml hr hts hown hlocks htab hA hK hZ hT hw hx0 hN2 hL1 hq hk hd1 hd2 hJ hD hS hl)
      · exact lv_tableIn (off := 377) (tgt := 474) hx hb dL_act_97 (by decide) (by decide) rfl (by decide) (act_c6 hl0 hx hb hml hr hts hown hlocks htab hA hK hZ hT hw hx0 hN2 hL1 hq hk hd1 hd2 hJ hD hS hl)
      · exact lv_tableIn (off := 377) (tgt := 474) hx hb dL_act_97 (by decide) (by decide) rfl (by decide) (act_c6 hl0 hx hb hml hr hts hown hlocks htab hA hK hZ hT hw hx0 hN2 hL1 hq hk hd1 hd2 hJ hD hS hl)
      · exact lv_tableIn (off := 377) (tgt := 474) hx hb dL_act_97 (by decide) (by decide) rfl (by decide) (act_c6 hl0 hx hb hml hr hts hown hlocks htab hA hK hZ hT hw hx0 hN2 hL1 hq hk hd1 hd2 hJ hD hS hl)
      · exact lv_tableIn (off := 377) (tgt := 474) hx hb dL_act_97 (by decide) (by decide) rfl (by decide) (act_c6 hl0 hx hb hml hr hts hown hlocks htab hA hK hZ hT hw hx0 hN2 hL1 hq hk hd1 hd2 hJ hD hS hl)
      · exact lv_tableIn (off := 531) (tgt := 628) hx hb dL_act_97 (by decide) (by decide) rfl (by decide) (act_c10 hl0 hx hb hml hr hts hown hlocks htab hA hK hZ hT hw hx0 hN2 hL1 hq hk hd1 hd2 hJ hD hS hl)
      · exact lv_tableIn (off := 531) (tgt := 628) hx hb dL_act_97 (by decide) (by decide) rfl (by decide) (act_c10 hl0 hx hb hml hr hts hown hlocks htab hA hK hZ hT hw hx0 hN2 hL1 hq hk hd1 hd2 hJ hD hS hl)
      · exact lv_tableOut (tgt := 737) hx hb dL_act_97 (by decide) (by decide) (act_d hl0 hx hb hml hr hts hown hlocks htab hA hK hZ hT hw hx0 hN2 hL1 hq hk hd1 hd2 hJ hD hS hl)
      · exact lv_tableOut (tgt := 737) hx hb dL_act_97 (by decide) (by decide) (act_d hl0 hx hb hml hr hts hown hlocks htab hA hK hZ hT hw hx0 hN2 hL1 hq hk hd1 hd2 hJ hD hS hl)
      · exact lv_tableOut (tgt := 737) hx hb dL_act_97 (by decide) (by decide) (act_d hl0 hx hb hml hr hts hown hlocks htab hA hK hZ hT hw hx0 hN2 hL1 hq hk hd1 hd2 hJ hD hS hl)
      · exact lv_tableOut (tgt := 737) hx hb dL_act_97 (by decide) (by decide) (act_d hl0 hx hb hml hr hts hown hlocks htab hA hK hZ hT hw hx0 hN2 hL1 hq hk hd1 hd2 hJ hD hS hl)
    · refine lv_icmp_ge (tgt := 88) hx hb dL_act_81 (by decide) (fun c81 => ?_) (fun c81 => ?_)
      · have h16 : ¬ N < 16 := by have := kr_ge (a := N) (b := 16) (by omega) (by decide) c81; omega
        refine lv_iconst (v := 0) hx hb dL_act_88 (by decide) ?_
        exact kC _ (if_neg h16).symm
      · have h16 : N < 16 := kr_lt (a := N) (b := 16) (by omega) (by decide) c81
        refine lv_iconst (v := 1) hx hb dL_act_84 (by decide) ?_
        refine lv_goto (tgt := 89) hx hb dL_act_85 (by decide) ?_
        exact kC _ (if_pos h16).symm
  · refine lv_if_ne (tgt := 69) hx hb dL_act_60 (by decide) (fun c60 => ?_) (fun c60 => ?_)
    · refine lv_sipush (v := 200) hx hb dL_act_69 (by decide) ?_
      exact kJ _ ⟨200, by decide, by decide, rfl⟩
    · refine lv_sipush (v := 999) hx hb dL_act_63 (by decide) ?_
      refine lv_goto (tgt := 72) hx hb dL_act_66 (by decide) ?_
      exact kJ _ ⟨999, by decide, by decide, rfl⟩
