theorem kr_lg (x : Int64) : lg_cmp x x = 0 := by simp [lg_cmp]
theorem kgh_yL_addKnot : GoodIn kr_all (va_wsS RL 98 yL_addKnot (Cond.codeWith yL_addKnot cL_addKnot 6 (some .int) [(0, 12, 15, 13), (0, 12, 19, 15), (0, 12, 23, 17)] :: kr_all)) := kr_gW kq_303 kq_304 kq_47 kq_305
theorem kg_RL_103 : GoodIn kr_all (wsV RL 103 RX1 yX1_addKnot (Cond.code yX1_addKnot cX1_addKnot 4 (some .int) :: kr_all)) := kr_gV kq_580 kq_581 kq_582 kq_49 kq_583
theorem kg_RL_104 : GoodIn kr_all (wsV RL 104 RX1 yX1_thrown (Cond.code yX1_thrown cX1_thrown 1 (some .int) :: kr_all)) := kr_gV kq_576 kq_577 kq_578 kq_49 kq_579
set_option maxHeartbeats 4000000 in
set_option maxRecDepth 100000 in
theorem law_c_addKnot {p : Program} {l : Launch} {e : Env} {s : State} {m : MethodId} {below : List Frame} {meth : Method} {c : Code} {Q : State → Prop} {b Ls : Nat} {xs : Nat → Int32} {D : va_G} {cy cl : ClassId} {h h' o i N L : Nat} {a a' : Nat → Nat} {A : Nat → Nat → Int32} {th : Int32} {O : Nat → Int64} {H : Heap} {locs : List Loc} {cells slots : Nat} {ls : Array Slot} (C0 : lw_At p s m meth c b Ls xs) (hL9 : Ls ≤ 2048) (hl0 : l.stackTraces = false) (hT : kr_T s) (hw : kr_wf N L A) (hwe : kr_we N A) (hK : va_K D vwCl [(cy, .int), (cl, .long)] s) (hP : va_P D vwCl (kr_WW cy cl h a h' a' o N L A th N L A O) H) (hD : va_D (kr_new s) (kr_WW cy cl h a h' a' o N L A th N L A O)) (hS : va_S (kr_new s) s.heap H locs) (hi : i + 4 ≤ Ls) (hl : lv_has ls 9 [(0, .ref b), (1, .ref h), (2, .ref h'), (3, .ref o), (4, .int (nI i))]) (hf : cells + 16 ≤ 601024 ∧ slots + 112 ≤ 7293034) (kT : ∀ (N L : Nat) (A : Nat → Nat → Int32) (th : Int32) (O : Nat → Int64) (H : Heap) (locs : List Loc) (ls : Array Slot), kr_wf N L A → kr_we N A → va_P D vwCl (kr_WW cy cl h a h' a' o N L A th N L A O) H → va_D (kr_new s) (kr_WW cy cl h a h' a' o N L A th N L A O) → va_S (kr_new s) s.heap H locs → lv_has ls 9 [(0, .ref b), (1, .ref h), (2, .ref h'), (3, .ref o), (4, .int (nI i))] → W p l e room_1 s m #[Value.ref b] below meth c H locs (cells + 16) (slots + 112) Q (F0 m 1889 ls [])) : W p l e room_1 s m #[Value.ref b] below meth c H locs cells slots Q (F0 m 172 ls []) := by
  obtain ⟨hx, hb, hr, hml, hown, hts0, hX, hbl, hlocks, hgv⟩ := id C0
  have hts : ∀ w ∈ kr_all, w.before #[Value.ref b] s = true := fun w hw => hts0 w (List.mem_filter.mp hw).1
  have hown : s.vm.findClass RL = some m.cls := hown
  have hb : c.code = cL_law := hb
  have hbA : ¬ (kr_new s) b := Nat.not_le.mpr hbl
  obtain ⟨x, ex1⟩ : ∃ v, v = xs (nI (i + 1)).toNatClampNeg := ⟨_, rfl⟩
  obtain ⟨y, ex2⟩ : ∃ v, v = xs (nI (i + 2)).toNatClampNeg := ⟨_, rfl⟩
  obtain ⟨z, ex3⟩ : ∃ v, v = xs (nI (i + 3)).toNatClampNeg := ⟨_, rfl⟩
  refine lv_aload_n hx hb dL_law_172 rfl (lv_at hl 1 rfl) ?_
  refine lv_aload_n hx hb dL_law_173 rfl (lv_at hl 0 rfl) ?_
  refine lv_iload hx hb dL_law_174 (lv_at hl 4 rfl) ?_
  refine lv_iconst (v := 1) hx hb dL_law_176 (by decide) ?_
  refine kr_iaddN hx hb i 1 dL_law_177 ?_
  refine va_sld hx hb hX hbl hbA hS (vp_in_nI (by omega) (by omega)) dL_law_178 ?_
  rw [← ex1]
  refine lv_aload_n hx hb dL_law_179 rfl (lv_at hl 0 rfl) ?_
  refine lv_iload hx hb dL_law_180 (lv_at hl 4 rfl) ?_
  refine lv_iconst (v := 2) hx hb dL_law_182 (by decide) ?_
  refine kr_iaddN hx hb i 2 dL_law_183 ?_
  refine va_sld hx hb hX hbl hbA hS (vp_in_nI (by omega) (by omega)) dL_law_184 ?_
  rw [← ex2]
  refine lv_aload_n hx hb dL_law_185 rfl (lv_at hl 0 rfl) ?_
  refine lv_iload hx hb dL_law_186 (lv_at hl 4 rfl) ?_
  refine lv_iconst (v := 3) hx hb dL_law_188 (by decide) ?_
  refine kr_iaddN hx hb i 3 dL_law_189 ?_
  refine va_sld hx hb hX hbl hbA hS (vp_in_nI (by omega) (by omega)) dL_law_190 ?_
  rw [← ex3]
  refine lv_aload_n hx hb dL_law_191 rfl (lv_at hl 3 rfl) ?_
  refine kr_lawH (n := 5) (As := [.ref h, .int x, .int y, .int z, .ref o]) (rest := []) ⟨hx, hb, hml, hown, hts⟩ (h_L_addKnot l hl0 D cy cl h a o N L A O H.size x y z hw) kgh_yL_addKnot ⟨rfl, rfl⟩ (by decide +kernel) ⟨Nat.le_of_ble_eq_true rfl, Nat.le_of_ble_eq_true rfl⟩ hP hK hD hS hT rfl hl.1 rfl (Nat.le_of_ble_eq_true rfl) dL_law_192 ⟨show cells + 1 ≤ 601024 by omega, show slots + 6 ≤ 7293034 by omega⟩ (fun r9 O2 H locs e9 hP hD hS => ?_)
  obtain ⟨e9, hO⟩ := e9
  refine lv_istore (lv' := [(5, .int r9), (0, .ref b), (1, .ref h), (2, .ref h'), (3, .ref o), (4, .int (nI i))]) hx hb dL_law_195 hl (by decide) rfl (fun ls hl => ?_)
  refine lv_aload_n hx hb dL_law_197 rfl (lv_at hl 3 rfl) ?_
  refine lv_aload_n hx hb dL_law_198 rfl (lv_at hl 1 rfl) ?_
  refine lv_iload hx hb dL_law_199 (lv_at hl 5 rfl) ?_
  refine lv_iconst (v := 1) hx hb dL_law_201 (by decide) ?_
  refine kr_iaddN hx hb i 1 dL_law_202 ?_
  refine va_sld hx hb hX hbl hbA hS (vp_in_nI (by omega) (by omega)) dL_law_203 ?_
  rw [← ex1]
  refine lv_aload_n hx hb dL_law_204 rfl (lv_at hl 1 rfl) ?_
  refine lv_iload hx hb dL_law_205 (lv_at hl 5 rfl) ?_
  refine lv_iconst (v := 2) hx hb dL_law_207 (by decide) ?_
  refine kr_iaddN hx hb i 2 dL_law_208 ?_
  refine va_sld hx hb hX hbl hbA hS (vp_in_nI (by omega) (by omega)) dL_law_209 ?_
  rw [← ex2]
  refine lv_aload_n hx hb dL_law_210 rfl (lv_at hl 1 rfl) ?_
  refine lv_iload hx hb dL_law_211 (lv_at hl 5 rfl) ?_
  refine lv_iconst (v := 3) hx hb dL_law_213 (by decide) ?_
  refine kr_iaddN hx hb i 3 dL_law_214 ?_
  refine va_sld hx hb hX hbl hbA hS (vp_in_nI (by omega) (by omega)) dL_law_215 ?_
  rw [← ex3]
  refine kr_lawX (n := 3) (As := [.int x, .int y, .int z]) (rest := []) ⟨hx, hb, hml, hown, hts⟩ (c_X1_addKnot l D cy h' a' th N L A H.size x y z hw.1) kg_RL_103 ⟨rfl, rfl⟩ (by decide +kernel) ⟨Nat.le_of_ble_eq_true rfl, Nat.le_of_ble_eq_true rfl⟩ hP hK hD hS rfl hl.1 rfl (Nat.le_of_ble_eq_true rfl) dL_law_216 ⟨show cells + 1 ≤ 601024 by omega, show slots + 6 ≤ 7293034 by omega⟩ (fun r8 H locs e8 hP hD hS => ?_)
  have hww : kr_wf (if kr_cd (x = 0 ∨ x = 1) ((¬ y < 10 ∧ ¬ 100 < y) ∧ (¬ z < 1 ∧ ¬ 9 < z)) (N < 16) = 0 then N + 1 else N) L (if kr_cd (x = 0 ∨ x = 1) ((¬ y < 10 ∧ ¬ 100 < y) ∧ (¬ z < 1 ∧ ¬ 9 < z)) (N < 16) = 0 then kr_aA A N x y z else A) ∧ kr_we (if kr_cd (x = 0 ∨ x = 1) ((¬ y < 10 ∧ ¬ 100 < y) ∧ (¬ z < 1 ∧ ¬ 9 < z)) (N < 16) = 0 then N + 1 else N) (if kr_cd (x = 0 ∨ x = 1) ((¬ y < 10 ∧ ¬ 100 < y) ∧ (¬ z < 1 ∧ ¬ 9 < z)) (N < 16) = 0 then kr_aA A N x y z else A) := by
    by_cases hc : kr_cd (x = 0 ∨ x = 1) ((¬ y < 10 ∧ ¬ 100 < y) ∧ (¬ z < 1 ∧ ¬ 9 < z)) (N < 16) = 0
    · obtain ⟨hc1, hc2, hc3⟩ := kr_cdE hc
      rw [if_pos hc]; rw [if_pos hc]
      exact ⟨kr_wf_a hw hc3 hc1, kr_we_a hwe hc2.1⟩
    · rw [if_neg hc]; rw [if_neg hc]
      exact ⟨hw, hwe⟩
  refine lv_istore (lv' := [(6, .int r8), (5, .int r9), (0, .ref b), (1, .ref h), (2, .ref h'), (3, .ref o), (4, .int (nI i))]) hx hb dL_law_219 hl (by decide) rfl (fun ls hl => ?_)
  refine lv_aload_n hx hb dL_law_221 rfl (lv_at hl 4 rfl) ?_
  refine kr_vI (n := 0) (As := []) (rest := []) ⟨hx, hb, hml, hown, hts⟩ (c_X1_thrown l D cy h' a' _ _ _ _) kg_RL_104 ⟨rfl, rfl⟩ (by decide +kernel) ⟨Nat.le_of_ble_eq_true rfl, Nat.le_of_ble_eq_true rfl⟩ (kr_pw1 hP hK) rfl hl.1 rfl (Nat.le_of_ble_eq_true rfl) dL_law_222 ⟨show cells + 1 ≤ 601024 by omega, show slots + 6 ≤ 7293034 by omega⟩ (fun r7 e7 => ?_)
  refine lv_iload hx hb dL_law_225 (lv_at hl 1 rfl) ?_
  refine lv_icmp_eq (tgt := 232) hx hb dL_law_227 (by decide) (fun c227 => ?_) (fun c227 => absurd (e7.trans e9.symm) c227)
  refine lv_iload hx hb dL_law_232 (lv_at hl 1 rfl) ?_
  refine lv_if_ne (tgt := 249) hx hb dL_law_234 (by decide) (fun c234 => ?_) (fun c234 => ?_)
  · refine lv_goto (tgt := 1889) hx hb dL_law_249 (by decide) ?_
    refine W.widen (k := cells + 16) (n := slots + 112) (by omega) (by omega) ?_
    exact kT _ _ _ _ _ _ _ ls hww.1 hww.2 hP hD hS (lv_sub hl [2, 3, 4, 5, 6] rfl)
  · have hc : kr_cd (x = 0 ∨ x = 1) ((¬ y < 10 ∧ ¬ 100 < y) ∧ (¬ z < 1 ∧ ¬ 9 < z)) (N < 16) = 0 := e9.symm.trans c234
    have hO2 : O2 (0 : Int32).toNatClampNeg = Int32.toInt64 r8 := (hO hc).trans (congrArg Int32.toInt64 (e8 hc).symm)
    refine lv_aload_n hx hb dL_law_237 rfl (lv_at hl 5 rfl) ?_
    refine lv_iconst (v := 0) hx hb dL_law_238 (by decide) ?_
    refine va_lald hx hb hK hP 18 1 rfl rfl (show ¬ ((0 : Int32) < 0 ∨ 1 ≤ (0 : Int32).toNatClampNeg) by decide) dL_law_239 ?_
    rw [hO2]
    refine lv_iload hx hb dL_law_240 (lv_at hl 0 rfl) ?_
    refine lv_i2l (v := r8.toInt64) hx hb dL_law_242 rfl ?_
    refine W.lcmp hx hb dL_law_243 ?_
    refine lv_if_eq (tgt := 249) hx hb dL_law_244 (by decide) (fun c244 => ?_) (fun c244 => absurd (kr_lg _) c244)
    refine lv_goto (tgt := 1889) hx hb dL_law_249 (by decide) ?_
    refine W.widen (k := cells + 16) (n := slots + 112) (by omega) (by omega) ?_
    exact kT _ _ _ _ _ _ _ ls hww.1 hww.2 hP hD hS (lv_sub hl [2, 3, 4, 5, 6] rfl)
theorem kgh_yL_setSpill : GoodIn kr_all (va_wsS RL 108 yL_setSpill (Cond.codeWith yL_setSpill cL_setSpill 6 (some .int) [(0, 12, 15, 13), (0, 12, 19, 15)] :: kr_all)) := kr_gW kq_350 kq_351 kq_47 kq_352
theorem kg_RL_110 : GoodIn kr_all (wsV RL 110 RX1 yX1_setSpill (Cond.code yX1_setSpill cX1_setSpill 5 (some .int) :: kr_all)) := kr_gV kq_591 kq_592 kq_593 kq_49 kq_594
set_option maxHeartbeats 4000000 in
set_option maxRecDepth 100000 in
theorem law_c_setSpill {p : Program} {l : Launch} {e : Env} {s : State} {m : MethodId} {below : List Frame} {meth : Method} {c : Code} {Q : State → Prop} {b Ls : Nat} {xs : Nat → Int32} {D : va_G} {cy cl : ClassId} {h h' o i N L : Nat} {a a' : Nat → Nat} {A : Nat → Nat → Int32} {th : Int32} {O : Nat → Int64} {H : Heap} {locs : List Loc} {cells slots : Nat} {ls : Array Slot} (C0 : lw_At p s m meth c b Ls xs) (hL9 : Ls ≤ 2048) (hl0 : l.stackTraces = false) (hT : kr_T s) (hw : kr_wf N L A) (hwe : kr_we N A) (hK : va_K D vwCl [(cy, .int), (cl, .long)] s) (hP : va_P D vwCl (kr_WW cy cl h a h' a' o N L A th N L A O) H) (hD : va_D (kr_new s) (kr_WW cy cl h a h' a' o N L A th N L A O)) (hS : va_S (kr_new s) s.heap H locs) (hi : i + 4 ≤ Ls) (hl : lv_has ls 9 [(0, .ref b), (1, .ref h), (2, .ref h'), (3, .ref o), (4, .int (nI i))]) (hf : cells + 16 ≤ 601024 ∧ slots + 112 ≤ 7293034) (kT : ∀ (N L : Nat) (A : Nat → Nat → Int32) (th : Int32) (O : Nat → Int64) (H : Heap) (locs : List Loc) (ls : Array Slot), kr_wf N L A → kr_we N A → va_P D vwCl (kr_WW cy cl h a h' a' o N L A th N L A O) H → va_D (kr_new s) (kr_WW cy cl h a h' a' o N L A th N L A O) → va_S (kr_new s) s.heap H locs → lv_has ls 9 [(0, .ref b), (1, .ref h), (2, .ref h'), (3, .ref o), (4, .int (nI i))] → W p l e room_1 s m #[Value.ref b] below meth c H locs (cells + 16) (slots + 112) Q (F0 m 1889 ls [])) : W p l e room_1 s m #[Value.ref b] below meth c H locs cells slots Q (F0 m 252 ls []) := by
  obtain ⟨hx, hb, hr, hml, hown, hts0, hX, hbl, hlocks, hgv⟩ := id C0
  have hts : ∀ w ∈ kr_all, w.before #[Value.ref b] s = true := fun w hw => hts0 w (List.mem_filter.mp hw).1
  have hown : s.vm.findClass RL = some m.cls := hown
  have hb : c.code = cL_law := hb
  have hbA : ¬ (kr_new s) b := Nat.not_le.mpr hbl
  obtain ⟨x, ex1⟩ : ∃ v, v = xs (nI (i + 1)).toNatClampNeg := ⟨_, rfl⟩
  obtain ⟨y, ex2⟩ : ∃ v, v = xs (nI (i + 2)).toNatClampNeg := ⟨_, rfl⟩
  obtain ⟨z, ex3⟩ : ∃ v, v = xs (nI (i + 3)).toNatClampNeg := ⟨_, rfl⟩
  refine lv_aload_n hx hb dL_law_252 rfl (lv_at hl 1 rfl) ?_
  refine lv_aload_n hx hb dL_law_253 rfl (lv_at hl 0 rfl) ?_
  refine lv_iload hx hb dL_law_254 (lv_at hl 4 rfl) ?_
  refine lv_iconst (v := 1) hx hb dL_law_256 (by decide) ?_
  refine kr_iaddN hx hb i 1 dL_law_257 ?_
  refine va_sld hx hb hX hbl hbA hS (vp_in_nI (by omega) (by omega)) dL_law_258 ?_
  rw [← ex1]
  refine lv_aload_n hx hb dL_law_259 rfl (lv_at hl 0 rfl) ?_
  refine lv_iload hx hb dL_law_260 (lv_at hl 4 rfl) ?_
  refine lv_iconst (v := 2) hx hb dL_law_262 (by decide) ?_
  refine kr_iaddN hx hb i 2 dL_law_263 ?_
  refine va_sld hx hb hX hbl hbA hS (vp_in_nI (by omega) (by omega)) dL_law_264 ?_
  rw [← ex2]
  refine lv_aload_n hx hb dL_law_265 rfl (lv_at hl 0 rfl) ?_
  refine lv_iload hx hb dL_law_266 (lv_at hl 4 rfl) ?_
  refine lv_iconst (v := 3) hx hb dL_law_268 (by decide) ?_
  refine kr_iaddN hx hb i 3 dL_law_269 ?_
  refine va_sld hx hb hX hbl hbA hS (vp_in_nI (by omega) (by omega)) dL_law_270 ?_
  rw [← ex3]
  refine lv_aload_n hx hb dL_law_271 rfl (lv_at hl 3 rfl) ?_
  refine kr_lawH (n := 5) (As := [.ref h, .int x, .int y, .int z, .ref o]) (rest := []) ⟨hx, hb, hml, hown, hts⟩ (h_L_setSpill l hl0 D cy cl h a o N L A O H.size x y z hw) kgh_yL_setSpill ⟨rfl, rfl⟩ (by decide +kernel) ⟨Nat.le_of_ble_eq_true rfl, Nat.le_of_ble_eq_true rfl⟩ hP hK hD hS hT rfl hl.1 rfl (Nat.le_of_ble_eq_true rfl) dL_law_272 ⟨show cells + 1 ≤ 601024 by omega, show slots + 6 ≤ 7293034 by omega⟩ (fun r9 O2 H locs e9 hP hD hS => ?_)
  obtain ⟨e9, hO⟩ := e9
  refine lv_istore (lv' := [(5, .int r9), (0, .ref b), (1, .ref h), (2, .ref h'), (3, .ref o), (4, .int (nI i))]) hx hb dL_law_275 hl (by decide) rfl (fun ls hl => ?_)
  refine lv_aload_n hx hb dL_law_277 rfl (lv_at hl 3 rfl) ?_
  refine lv_aload_n hx hb dL_law_278 rfl (lv_at hl 1 rfl) ?_
  refine lv_iload hx hb dL_law_279 (lv_at hl 5 rfl) ?_
  refine lv_iconst (v := 1) hx hb dL_law_281 (by decide) ?_
  refine kr_iaddN hx hb i 1 dL_law_282 ?_
  refine va_sld hx hb hX hbl hbA hS (vp_in_nI (by omega) (by omega)) dL_law_283 ?_
  rw [← ex1]
  refine lv_aload_n hx hb dL_law_284 rfl (lv_at hl 1 rfl) ?_
  refine lv_iload hx hb dL_law_285 (lv_at hl 5 rfl) ?_
  refine lv_iconst (v := 2) hx hb dL_law_287 (by decide) ?_
  refine kr_iaddN hx hb i 2 dL_law_288 ?_
  refine va_sld hx hb hX hbl hbA hS (vp_in_nI (by omega) (by omega)) dL_law_289 ?_
  rw [← ex2]
  refine lv_aload_n hx hb dL_law_290 rfl (lv_at hl 1 rfl) ?_
  refine lv_iload hx hb dL_law_291 (lv_at hl 5 rfl) ?_
  refine lv_iconst (v := 3) hx hb dL_law_293 (by decide) ?_
  refine kr_iaddN hx hb i 3 dL_law_294 ?_
  refine va_sld hx hb hX hbl hbA hS (vp_in_nI (by omega) (by omega)) dL_law_295 ?_
  rw [← ex3]
  refine kr_lawX (n := 3) (As := [.int x, .int y, .int z]) (rest := []) ⟨hx, hb, hml, hown, hts⟩ (c_X1_setSpill l D cy h' a' th N L A H.size x y z hw) kg_RL_110 ⟨rfl, rfl⟩ (by decide +kernel) ⟨Nat.le_of_ble_eq_true rfl, Nat.le_of_ble_eq_true rfl⟩ hP hK hD hS rfl hl.1 rfl (Nat.le_of_ble_eq_true rfl) dL_law_296 ⟨show cells + 1 ≤ 601024 by omega, show slots + 6 ≤ 7293034 by omega⟩ (fun r8 H locs e8 hP hD hS => ?_)
  have hww : kr_wf N L (if kr_cd (kr_i N x) (kr_o y ∧ (¬ z < -1 ∧ z < x) ∧ (z = -1 ∨ A 0 (kr_ix z) = A 0 (kr_ix x))) True = 0 then kr_sA A (kr_ix x) y z else A) ∧ kr_we N (if kr_cd (kr_i N x) (kr_o y ∧ (¬ z < -1 ∧ z < x) ∧ (z = -1 ∨ A 0 (kr_ix z) = A 0 (kr_ix x))) True = 0 then kr_sA A (kr_ix x) y z else A) := by
    by_cases hc : kr_cd (kr_i N x) (kr_o y ∧ (¬ z < -1 ∧ z < x) ∧ (z = -1 ∨ A 0 (kr_ix z) = A 0 (kr_ix x))) True = 0
    · obtain ⟨hc1, hc2, hc3⟩ := kr_cdE hc
      rw [if_pos hc]
      obtain ⟨hk, ex2⟩ := kr_exN hw hc1
      have hN := hw.1
      have hz2 : z = -1 ∨ ∃ j, j < kr_ix x ∧ z = nI j := by
        by_cases hz0 : z = -1
        · exact Or.inl hz0
        · exact Or.inr (kr_inS (k := kr_ix x) (by omega) hc2.2.1.1 (by rw [← ex2]; exact hc2.2.1.2) hz0)
      exact ⟨kr_wf_s hw hk hc2.1 hz2, hwe⟩
    · rw [if_neg hc]
      exact ⟨hw, hwe⟩
  refine lv_istore (lv' := [(6, .int r8), (5, .int r9), (0, .ref b), (1, .ref h), (2, .ref h'), (3, .ref o), (4, .int (nI i))]) hx hb dL_law_299 hl (by decide) rfl (fun ls hl => ?_)
  refine lv_aload_n hx hb dL_law_301 rfl (lv_at hl 4 rfl) ?_
  refine kr_vI (n := 0) (As := []) (rest := []) ⟨hx, hb, hml, hown, hts⟩ (c_X1_thrown l D cy h' a' _ _ _ _) kg_RL_104 ⟨rfl, rfl⟩ (by decide +kernel) ⟨Nat.le_of_ble_eq_true rfl, Nat.le_of_ble_eq_true rfl⟩ (kr_pw1 hP hK) rfl hl.1 rfl (Nat.le_of_ble_eq_true rfl) dL_law_302 ⟨show cells + 1 ≤ 601024 by omega, show slots + 6 ≤ 7293034 by omega⟩ (fun r7 e7 => ?_)
  refine lv_iload hx hb dL_law_305 (lv_at hl 1 rfl) ?_
  refine lv_icmp_eq (tgt := 312) hx hb dL_law_307 (by decide) (fun c307 => ?_) (fun c307 => absurd (e7.trans e9.symm) c307)
  refine lv_iload hx hb dL_law_312 (lv_at hl 1 rfl) ?_
  refine lv_if_ne (tgt := 329) hx hb dL_law_314 (by decide) (fun c314 => ?_) (fun c314 => ?_)
  · refine lv_goto (tgt := 1889) hx hb dL_law_329 (by decide) ?_
    refine W.widen (k := cells + 16) (n := slots + 112) (by omega) (by omega) ?_
    exact kT _ _ _ _ _ _ _ ls hww.1 hww.2 hP hD hS (lv_sub hl [2, 3, 4, 5, 6] rfl)
  · have hc : kr_cd (kr_i N x) (kr_o y ∧ (¬ z < -1 ∧ z < x) ∧ (z = -1 ∨ A 0 (kr_ix z) = A 0 (kr_ix x))) True = 0 := e9.symm.trans c314
    have hO2 : O2 (0 : Int32).toNatClampNeg = Int32.toInt64 r8 := (hO hc).trans (congrArg Int32.toInt64 (e8 hc).symm)
    refine lv_aload_n hx hb dL_law_317 rfl (lv_at hl 5 rfl) ?_
    refine lv_iconst (v := 0) hx hb dL_law_318 (by decide) ?_
    refine va_lald hx hb hK hP 18 1 rfl rfl (show ¬ ((0 : Int32) < 0 ∨ 1 ≤ (0 : Int32).toNatClampNeg) by decide) dL_law_319 ?_
    rw [hO2]
    refine lv_iload hx hb dL_law_320 (lv_at hl 0 rfl) ?_
    refine lv_i2l (v := r8.toInt64) hx hb dL_law_322 rfl ?_
    refine W.lcmp hx hb dL_law_323 ?_
    refine lv_if_eq (tgt := 329) hx hb dL_law_324 (by decide) (fun c324 => ?_) (fun c324 => absurd (kr_lg _) c324)
    refine lv_goto (tgt := 1889) hx hb dL_law_329 (by decide) ?_
    refine W.widen (k := cells + 16) (n := slots + 112) (by omega) (by omega) ?_
    exact kT _ _ _ _ _ _ _ ls hww.1 hww.2 hP hD hS (lv_sub hl [2, 3, 4, 5, 6] rfl)
theorem kgh_yL_tie : GoodIn kr_all (va_wsS RL 111 yL_tie (Cond.codeWith yL_tie cL_tie 5 (some .int) [(0, 10, 13, 13), (0, 10, 17, 15), (0, 10, 21, 17)] :: kr_all)) := kr_gW kq_363 kq_364 kq_47 kq_365
theorem kg_RL_114 : GoodIn kr_all (wsV RL 114 RX1 yX1_tie (Cond.code yX1_tie cX1_tie 3 (some .int) :: kr_all)) := kr_gV kq_602 kq_603 kq_604 kq_49 kq_605
set_option maxHeartbeats 4000000 in
set_option maxRecDepth 100000 in
theorem law_c_tie {p : Program} {l : Launch} {e : Env} {s : State} {m : MethodId} {below : List Frame} {meth : Method} {c : Code} {Q : State → Prop} {b Ls : Nat} {xs : Nat → Int32} {D : va_G} {cy cl : ClassId} {h h' o i N L : Nat} {a a' : Nat → Nat} {A : Nat → Nat → Int32} {th : Int32} {O : Nat → Int64} {H : Heap} {locs : List Loc} {cells slots : Nat} {ls : Array Slot} (C0 : lw_At p s m meth c b Ls xs) (hL9 : Ls ≤ 2048) (hl0 : l.stackTraces = false) (hT : kr_T s) (hw : kr_wf N L A) (hwe : kr_we N A) (hK : va_K D vwCl [(cy, .int), (cl, .long)] s) (hP : va_P D vwCl (kr_WW cy cl h a h' a' o N L A th N L A O) H) (hD : va_D (kr_new s) (kr_WW cy cl h a h' a' o N L A th N L A O)) (hS : va_S (kr_new s) s.heap H locs) (hi : i + 4 ≤ Ls) (hl : lv_has ls 9 [(0, .ref b), (1, .ref h), (2, .ref h'), (3, .ref o), (4, .int (nI i))]) (hf : cells + 16 ≤ 601024 ∧ slots + 112 ≤ 7293034) (kT : ∀ (N L : Nat) (A : Nat → Nat → Int32) (th : Int32) (O : Nat → Int64) (H : Heap) (locs : List Loc) (ls : Array Slot), kr_wf N L A → kr_we N A → va_P D vwCl (kr_WW cy cl h a h' a' o N L A th N L A O) H → va_D (kr_new s) (kr_WW cy cl h a h' a' o N L A th N L A O) → va_S (kr_new s) s.heap H locs → lv_has ls 9 [(0, .ref b), (1, .ref h), (2, .ref h'), (3, .ref o), (4, .int (nI i))] → W p l e room_1 s m #[Value.ref b] below meth c H locs (cells + 16) (slots + 112) Q (F0 m 1889 ls [])) : W p l e room_1 s m #[Value.ref b] below meth c H locs cells slots Q (F0 m 332 ls []) := by
  obtain ⟨hx, hb, hr, hml, hown, hts0, hX, hbl, hlocks, hgv⟩ := id C0
  have hts : ∀ w ∈ kr_all, w.before #[Value.ref b] s = true := fun w hw => hts0 w (List.mem_filter.mp hw).1
  have hown : s.vm.findClass RL = some m.cls := hown
  have hb : c.code = cL_law := hb
  have hbA : ¬ (kr_new s) b := Nat.not_le.mpr hbl
  obtain ⟨x, ex1⟩ : ∃ v, v = xs (nI (i + 1)).toNatClampNeg := ⟨_, rfl⟩
  obtain ⟨y, ex2⟩ : ∃ v, v = xs (nI (i + 2)).toNatClampNeg := ⟨_, rfl⟩
  refine lv_aload_n hx hb dL_law_332 rfl (lv_at hl 1 rfl) ?_
  refine lv_aload_n hx hb dL_law_333 rfl (lv_at hl 0 rfl) ?_
  refine lv_iload hx hb dL_law_334 (lv_at hl 4 rfl) ?_
  refine lv_iconst (v := 1) hx hb dL_law_336 (by decide) ?_
  refine kr_iaddN hx hb i 1 dL_law_337 ?_
  refine va_sld hx hb hX hbl hbA hS (vp_in_nI (by omega) (by omega)) dL_law_338 ?_
  rw [← ex1]
  refine lv_aload_n hx hb dL_law_339 rfl (lv_at hl 0 rfl) ?_
  refine lv_iload hx hb dL_law_340 (lv_at hl 4 rfl) ?_
  refine lv_iconst (v := 2) hx hb dL_law_342 (by decide) ?_
  refine kr_iaddN hx hb i 2 dL_law_343 ?_
  refine va_sld hx hb hX hbl hbA hS (vp_in_nI (by omega) (by omega)) dL_law_344 ?_
  rw [← ex2]
  refine lv_aload_n hx hb dL_law_345 rfl (lv_at hl 3 rfl) ?_
  refine kr_lawH (n := 4) (As := [.ref h, .int x, .int y, .ref o]) (rest := []) ⟨hx, hb, hml, hown, hts⟩ (h_L_tie l hl0 D cy cl h a o N L A O H.size x y hw) kgh_yL_tie ⟨rfl, rfl⟩ (by decide +kernel) ⟨Nat.le_of_ble_eq_true rfl, Nat.le_of_ble_eq_true rfl⟩ hP hK hD hS hT rfl hl.1 rfl (Nat.le_of_ble_eq_true rfl) dL_law_346 ⟨show cells + 1 ≤ 601024 by omega, show slots + 6 ≤ 7293034 by omega⟩ (fun r9 O2 H locs e9 hP hD hS => ?_)
  obtain ⟨e9, hO⟩ := e9
  refine lv_istore (lv' := [(5, .int r9), (0, .ref b), (1, .ref h), (2, .ref h'), (3, .ref o), (4, .int (nI i))]) hx hb dL_law_349 hl (by decide) rfl (fun ls hl => ?_)
  refine lv_aload_n hx hb dL_law_351 rfl (lv_at hl 3 rfl) ?_
  refine lv_aload_n hx hb dL_law_352 rfl (lv_at hl 1 rfl) ?_
  refine lv_iload hx hb dL_law_353 (lv_at hl 5 rfl) ?_
  refine lv_iconst (v := 1) hx hb dL_law_355 (by decide) ?_
  refine kr_iaddN hx hb i 1 dL_law_356 ?_
  refine va_sld hx hb hX hbl hbA hS (vp_in_nI (by omega) (by omega)) dL_law_357 ?_
  rw [← ex1]
  refine lv_aload_n hx hb dL_law_358 rfl (lv_at hl 1 rfl) ?_
  refine lv_iload hx hb dL_law_359 (lv_at hl 5 rfl) ?_
  refine lv_iconst (v := 2) hx hb dL_law_361 (by decide) ?_
  refine kr_iaddN hx hb i 2 dL_law_362 ?_
  refine va_sld hx hb hX hbl hbA hS (vp_in_nI (by omega) (by omega)) dL_law_363 ?_
  rw [← ex2]
  refine kr_lawX (n := 2) (As := [.int x, .int y]) (rest := []) ⟨hx, hb, hml, hown, hts⟩ (c_X1_tie l D cy h' a' th N L A H.size x y hw) kg_RL_114 ⟨rfl, rfl⟩ (by decide +kernel) ⟨Nat.le_of_ble_eq_true rfl, Nat.le_of_ble_eq_true rfl⟩ hP hK hD hS rfl hl.1 rfl (Nat.le_of_ble_eq_true rfl) dL_law_364 ⟨show cells + 1 ≤ 601024 by omega, show slots + 6 ≤ 7293034 by omega⟩ (fun r8 H locs e8 hP hD hS => ?_)
  have hww : kr_wf N (if kr_cd (kr_i N x) (A 0 (kr_ix x) = 1 ∧ kr_o y) (L < 6) = 0 then L + 1 else L) (if kr_cd (kr_i N x) (A 0 (kr_ix x) = 1 ∧ kr_o y) (L < 6) = 0 then kr_tA A L (kr_ix x) y else A) ∧ kr_we N (if kr_cd (kr_i N x) (A 0 (kr_ix x) = 1 ∧ kr_o y) (L < 6) = 0 then kr_tA A L (kr_ix x) y else A) := by
    by_cases hc : kr_cd (kr_i N x) (A 0 (kr_ix x) = 1 ∧ kr_o y) (L < 6) = 0
    · obtain ⟨hc1, hc2, hc3⟩ := kr_cdE hc
      rw [if_pos hc]; rw [if_pos hc]
      obtain ⟨hk, ex2⟩ := kr_exN hw hc1
      exact ⟨kr_wf_t hw hk hc3, hwe⟩
    · rw [if_neg hc]; rw [if_neg hc]
      exact ⟨hw, hwe⟩
  refine lv_istore (lv' := [(6, .int r8), (5, .int r9), (0, .ref b), (1, .ref h), (2, .ref h'), (3, .ref o), (4, .int (nI i))]) hx hb dL_law_367 hl (by decide) rfl (fun ls hl => ?_)
  refine lv_aload_n hx hb dL_law_369 rfl (lv_at hl 4 rfl) ?_
  refine kr_vI (n := 0) (As := []) (rest := []) ⟨hx, hb, hml, hown, hts⟩ (c_X1_thrown l D cy h' a' _ _ _ _) kg_RL_104 ⟨rfl, rfl⟩ (by decide +kernel) ⟨Nat.le_of_ble_eq_true rfl, Nat.le_of_ble_eq_true rfl⟩ (kr_pw1 hP hK) rfl hl.1 rfl (Nat.le_of_ble_eq_true rfl) dL_law_370 ⟨show cells + 1 ≤ 601024 by omega, show slots + 6 ≤ 7293034 by omega⟩ (fun r7 e7 => ?_)
  refine lv_iload hx hb dL_law_373 (lv_at hl 1 rfl) ?_
  refine lv_icmp_eq (tgt := 380) hx hb dL_law_375 (by decide) (fun c375 => ?_) (fun c375 => absurd (e7.trans e9.symm) c375)
  refine lv_iload hx hb dL_law_380 (lv_at hl 1 rfl) ?_
  refine lv_if_ne (tgt := 397) hx hb dL_law_382 (by decide) (fun c382 => ?_) (fun c382 => ?_)
  · refine lv_goto (tgt := 1889) hx hb dL_law_397 (by decide) ?_
    refine W.widen (k := cells + 16) (n := slots + 112) (by omega) (by omega) ?_
    exact kT _ _ _ _ _ _ _ ls hww.1 hww.2 hP hD hS (lv_sub hl [2, 3, 4, 5, 6] rfl)
  · have hc : kr_cd (kr_i N x) (A 0 (kr_ix x) = 1 ∧ kr_o y) (L < 6) = 0 := e9.symm.trans c382
    have hO2 : O2 (0 : Int32).toNatClampNeg = Int32.toInt64 r8 := (hO hc).trans (congrArg Int32.toInt64 (e8 hc).symm)
    refine lv_aload_n hx hb dL_law_385 rfl (lv_at hl 5 rfl) ?_
    refine lv_iconst (v := 0) hx hb dL_law_386 (by decide) ?_
    refine va_lald hx hb hK hP 18 1 rfl rfl (show ¬ ((0 : Int32) < 0 ∨ 1 ≤ (0 : Int32).toNatClampNeg) by decide) dL_law_387 ?_
    rw [hO2]
    refine lv_iload hx hb dL_law_388 (lv_at hl 0 rfl) ?_
    refine lv_i2l (v := r8.toInt64) hx hb dL_law_390 rfl ?_
    refine W.lcmp hx hb dL_law_391 ?_
    refine lv_if_eq (tgt := 397) hx hb dL_law_392 (by decide) (fun c392 => ?_) (fun c392 => absurd (kr_lg _) c392)
    refine lv_goto (tgt := 1889) hx hb dL_law_397 (by decide) ?_
    refine W.widen (k := cells + 16) (n := slots + 112) (by omega) (by omega) ?_
    exact kT _ _ _ _ _ _ _ ls hww.1 hww.2 hP hD hS (lv_sub hl [2, 3, 4, 5, 6] rfl)
theorem kgh_yL_join : GoodIn kr_all (va_wsS RL 115 yL_join (Cond.codeWith yL_join cL_join 6 (some .int) [(0, 12, 15, 13), (0, 12, 19, 15), (0, 12, 23, 17)] :: kr_all)) := kr_gW kq_384 kq_385 kq_47 kq_386
theorem kg_RL_117 : GoodIn kr_all (wsV RL 117 RX1 yX1_join (Cond.code yX1_join cX1_join 4 (some .int) :: kr_all)) := kr_gV kq_606 kq_607 kq_608 kq_49 kq_609
set_option maxHeartbeats 4000000 in
set_option maxRecDepth 100000 in
theorem law_c_join {p : Program} {l : Launch} {e : Env} {s : State} {m : MethodId} {below : List Frame} {meth : Method} {c : Code} {Q : State → Prop} {b Ls : Nat} {xs : Nat → Int32} {D : va_G} {cy cl : ClassId} {h h' o i N L : Nat} {a a' : Nat → Nat} {A : Nat → Nat → Int32} {th : Int32} {O : Nat → Int64} {H : Heap} {locs : List Loc} {cells slots : Nat} {ls : Array Slot} (C0 : lw_At p s m meth c b Ls xs) (hL9 : Ls ≤ 2048) (hl0 : l.stackTraces = false) (hT : kr_T s) (hw : kr_wf N L A) (hwe : kr_we N A) (hK : va_K D vwCl [(cy, .int), (cl, .long)] s) (hP : va_P D vwCl (kr_WW cy cl h a h' a' o N L A th N L A O) H) (hD : va_D (kr_new s) (kr_WW cy cl h a h' a' o N L A th N L A O)) (hS : va_S (kr_new s) s.heap H locs) (hi : i + 4 ≤ Ls) (hl : lv_has ls 9 [(0, .ref b), (1, .ref h), (2, .ref h'), (3, .ref o), (4, .int (nI i))]) (hf : cells + 16 ≤ 601024 ∧ slots + 112 ≤ 7293034) (kT : ∀ (N L : Nat) (A : Nat → Nat → Int32) (th : Int32) (O : Nat → Int64) (H : Heap) (locs : List Loc) (ls : Array Slot), kr_wf N L A → kr_we N A → va_P D vwCl (kr_WW cy cl h a h' a' o N L A th N L A O) H → va_D (kr_new s) (kr_WW cy cl h a h' a' o N L A th N L A O) → va_S (kr_new s) s.heap H locs → lv_has ls 9 [(0, .ref b), (1, .ref h), (2, .ref h'), (3, .ref o), (4, .int (nI i))] → W p l e room_1 s m #[Value.ref b] below meth c H locs (cells + 16) (slots + 112) Q (F0 m 1889 ls [])) : W p l e room_1 s m #[Value.ref b] below meth c H locs cells slots Q (F0 m 400 ls []) := by
  obtain ⟨hx, hb, hr, hml, hown, hts0, hX, hbl, hlocks, hgv⟩ := id C0
  have hts : ∀ w ∈ kr_all, w.before #[Value.ref b] s = true := fun w hw => hts0 w (List.mem_filter.mp hw).1
  have hown : s.vm.findClass RL = some m.cls := hown
  have hb : c.code = cL_law := hb
  have hbA : ¬ (kr_new s) b := Nat.not_le.mpr hbl
  obtain ⟨x, ex1⟩ : ∃ v, v = xs (nI (i + 1)).toNatClampNeg := ⟨_, rfl⟩
  obtain ⟨y, ex2⟩ : ∃ v, v = xs (nI (i + 2)).toNatClampNeg := ⟨_, rfl⟩
  obtain ⟨z, ex3⟩ : ∃ v, v = xs (nI (i + 3)).toNatClampNeg := ⟨_, rfl⟩
  refine lv_aload_n hx hb dL_law_400 rfl (lv_at hl 1 rfl) ?_
  refine lv_aload_n hx hb dL_law_401 rfl (lv_at hl 0 rfl) ?_
  refine lv_iload hx hb dL_law_402 (lv_at hl 4 rfl) ?_
  refine lv_iconst (v := 1) hx hb dL_law_404 (by decide) ?_
  refine kr_iaddN hx hb i 1 dL_law_405 ?_
  refine va_sld hx hb hX hbl hbA hS (vp_in_nI (by omega) (by omega)) dL_law_406 ?_
  rw [← ex1]
  refine lv_aload_n hx hb dL_law_407 rfl (lv_at hl 0 rfl) ?_
  refine lv_iload hx hb dL_law_408 (lv_at hl 4 rfl) ?_
  refine lv_iconst (v := 2) hx hb dL_law_410 (by decide) ?_
  refine kr_iaddN hx hb i 2 dL_law_411 ?_
  refine va_sld hx hb hX hbl hbA hS (vp_in_nI (by omega) (by omega)) dL_law_412 ?_
  rw [← ex2]
  refine lv_aload_n hx hb dL_law_413 rfl (lv_at hl 0 rfl) ?_
  refine lv_iload hx hb dL_law_414 (lv_at hl 4 rfl) ?_
  refine lv_iconst (v := 3) hx hb dL_law_416 (by decide) ?_
  refine kr_iaddN hx hb i 3 dL_law_417 ?_
  refine va_sld hx hb hX hbl hbA hS (vp_in_nI (by omega) (by omega)) dL_law_418 ?_
  rw [← ex3]
  refine lv_aload_n hx hb dL_law_419 rfl (lv_at hl 3 rfl) ?_
  refine kr_lawH (n := 5) (As := [.ref h, .int x, .int y, .int z, .ref o]) (rest := []) ⟨hx, hb, hml, hown, hts⟩ (h_L_join l hl0 D cy cl h a o N L A O H.size x y z hw) kgh_yL_join ⟨rfl, rfl⟩ (by decide +kernel) ⟨Nat.le_of_ble_eq_true rfl, Nat.le_of_ble_eq_true rfl⟩ hP hK hD hS hT rfl hl.1 rfl (Nat.le_of_ble_eq_true rfl) dL_law_420 ⟨show cells + 1 ≤ 601024 by omega, show slots + 6 ≤ 7293034 by omega⟩ (fun r9 O2 H locs e9 hP hD hS => ?_)
  obtain ⟨e9, hO⟩ := e9
  refine lv_istore (lv' := [(5, .int r9), (0, .ref b), (1, .ref h), (2, .ref h'), (3, .ref o), (4, .int (nI i))]) hx hb dL_law_423 hl (by decide) rfl (fun ls hl => ?_)
  refine lv_aload_n hx hb dL_law_425 rfl (lv_at hl 3 rfl) ?_
  refine lv_aload_n hx hb dL_law_426 rfl (lv_at hl 1 rfl) ?_
  refine lv_iload hx hb dL_law_427 (lv_at hl 5 rfl) ?_
  refine lv_iconst (v := 1) hx hb dL_law_429 (by decide) ?_
  refine kr_iaddN hx hb i 1 dL_law_430 ?_
  refine va_sld hx hb hX hbl hbA hS (vp_in_nI (by omega) (by omega)) dL_law_431 ?_
  rw [← ex1]
  refine lv_aload_n hx hb dL_law_432 rfl (lv_at hl 1 rfl) ?_
  refine lv_iload hx hb dL_law_433 (lv_at hl 5 rfl) ?_
  refine lv_iconst (v := 2) hx hb dL_law_435 (by decide) ?_
  refine kr_iaddN hx hb i 2 dL_law_436 ?_
  refine va_sld hx hb hX hbl hbA hS (vp_in_nI (by omega) (by omega)) dL_law_437 ?_
  rw [← ex2]
  refine lv_aload_n hx hb dL_law_438 rfl (lv_at hl 1 rfl) ?_
  refine lv_iload hx hb dL_law_439 (lv_at hl 5 rfl) ?_
  refine lv_iconst (v := 3) hx hb dL_law_441 (by decide) ?_
  refine kr_iaddN hx hb i 3 dL_law_442 ?_
  refine va_sld hx hb hX hbl hbA hS (vp_in_nI (by omega) (by omega)) dL_law_443 ?_
  rw [← ex3]
  refine kr_lawX (n := 3) (As := [.int x, .int y, .int z]) (rest := []) ⟨hx, hb, hml, hown, hts⟩ (c_X1_join l D cy h' a' th N L A H.size x y z hw) kg_RL_117 ⟨rfl, rfl⟩ (by decide +kernel) ⟨Nat.le_of_ble_eq_true rfl, Nat.le_of_ble_eq_true rfl⟩ hP hK hD hS rfl hl.1 rfl (Nat.le_of_ble_eq_true rfl) dL_law_444 ⟨show cells + 1 ≤ 601024 by omega, show slots + 6 ≤ 7293034 by omega⟩ (fun r8 H locs e8 hP hD hS => ?_)
  have hww : kr_wf N L (if kr_cd (kr_i L x ∧ kr_i N y) (A 0 (kr_ix y) = 0 ∧ kr_o z) (¬ A 5 (kr_ix x) = 0 ∧ A 5 (kr_ix x) < 5) = 0 then kr_jA A (kr_ix x) (kr_rc A (kr_ix x)) (kr_ix y) z else A) ∧ kr_we N (if kr_cd (kr_i L x ∧ kr_i N y) (A 0 (kr_ix y) = 0 ∧ kr_o z) (¬ A 5 (kr_ix x) = 0 ∧ A 5 (kr_ix x) < 5) = 0 then kr_jA A (kr_ix x) (kr_rc A (kr_ix x)) (kr_ix y) z else A) := by
    by_cases hc : kr_cd (kr_i L x ∧ kr_i N y) (A 0 (kr_ix y) = 0 ∧ kr_o z) (¬ A 5 (kr_ix x) = 0 ∧ A 5 (kr_ix x) < 5) = 0
    · obtain ⟨hc1, hc2, hc3⟩ := kr_cdE hc
      rw [if_pos hc]
      obtain ⟨hk, ex2⟩ := kr_exL hw hc1.1
      obtain ⟨hk2, ey2⟩ := kr_exN hw hc1.2
      obtain ⟨hrc, er⟩ := hw.rc hk
      have hr8 : kr_rc A (kr_ix x) < 5 := by
        have h9 := hc3.2
        rw [er] at h9
        exact kr_lt (by omega) (by omega) (show ¬ nI 5 ≤ nI (kr_rc A (kr_ix x)) from Int32.not_le.mpr h9)
      exact ⟨kr_wf_j hw hk2 hr8 hk er, hwe⟩
    · rw [if_neg hc]
      exact ⟨hw, hwe⟩
  refine lv_istore (lv' := [(6, .int r8), (5, .int r9), (0, .ref b), (1, .ref h), (2, .ref h'), (3, .ref o), (4, .int (nI i))]) hx hb dL_law_447 hl (by decide) rfl (fun ls hl => ?_)
  refine lv_aload_n hx hb dL_law_449 rfl (lv_at hl 4 rfl) ?_
  refine kr_vI (n := 0) (As := []) (rest := []) ⟨hx, hb, hml, hown, hts⟩ (c_X1_thrown l D cy h' a' _ _ _ _) kg_RL_104 ⟨rfl, rfl⟩ (by decide +kernel) ⟨Nat.le_of_ble_eq_true rfl, Nat.le_of_ble_eq_true rfl⟩ (kr_pw1 hP hK) rfl hl.1 rfl (Nat.le_of_ble_eq_true rfl) dL_law_450 ⟨show cells + 1 ≤ 601024 by omega, show slots + 6 ≤ 7293034 by omega⟩ (fun r7 e7 => ?_)
  refine lv_iload hx hb dL_law_453 (lv_at hl 1 rfl) ?_
  refine lv_icmp_eq (tgt := 460) hx hb dL_law_455 (by decide) (fun c455 => ?_) (fun c455 => absurd (e7.trans e9.symm) c455)
  refine lv_iload hx hb dL_law_460 (lv_at hl 1 rfl) ?_
  refine lv_if_ne (tgt := 477) hx hb dL_law_462 (by decide) (fun c462 => ?_) (fun c462 => ?_)
  · refine lv_goto (tgt := 1889) hx hb dL_law_477 (by decide) ?_
    refine W.widen (k := cells + 16) (n := slots + 112) (by omega) (by omega) ?_
    exact kT _ _ _ _ _ _ _ ls hww.1 hww.2 hP hD hS (lv_sub hl [2, 3, 4, 5, 6] rfl)
  · have hc : kr_cd (kr_i L x ∧ kr_i N y) (A 0 (kr_ix y) = 0 ∧ kr_o z) (¬ A 5 (kr_ix x) = 0 ∧ A 5 (kr_ix x) < 5) = 0 := e9.symm.trans c462
    have hO2 : O2 (0 : Int32).toNatClampNeg = Int32.toInt64 r8 := (hO hc).trans (congrArg Int32.toInt64 (e8 hc).symm)
    refine lv_aload_n hx hb dL_law_465 rfl (lv_at hl 5 rfl) ?_
    refine lv_iconst (v := 0) hx hb dL_law_466 (by decide) ?_
    refine va_lald hx hb hK hP 18 1 rfl rfl (show ¬ ((0 : Int32) < 0 ∨ 1 ≤ (0 : Int32).toNatClampNeg) by decide) dL_law_467 ?_
    rw [hO2]
    refine lv_iload hx hb dL_law_468 (lv_at hl 0 rfl) ?_
    refine lv_i2l (v := r8.toInt64) hx hb dL_law_470 rfl ?_
    refine W.lcmp hx hb dL_law_471 ?_
    refine lv_if_eq (tgt := 477) hx hb dL_law_472 (by decide) (fun c472 => ?_) (fun c472 => absurd (kr_lg _) c472)
    refine lv_goto (tgt := 1889) hx hb dL_law_477 (by decide) ?_
    refine W.widen (k := cells + 16) (n := slots + 112) (by omega) (by omega) ?_
    exact kT _ _ _ _ _ _ _ ls hww.1 hww.2 hP hD hS (lv_sub hl [2, 3, 4, 5, 6] rfl)
theorem kgh_yL_retie : GoodIn kr_all (va_wsS RL 118 yL_retie (Cond.codeWith yL_retie cL_retie 6 (some .int) [(0, 12, 15, 13), (0, 12, 19, 15)] :: kr_all)) := kr_gW kq_397 kq_398 kq_47 kq_399
theorem kg_RL_120 : GoodIn kr_all (wsV RL 120 RX1 yX1_retie (Cond.code yX1_retie cX1_retie 5 (some .int) :: kr_all)) := kr_gV kq_614 kq_615 kq_616 kq_49 kq_617
set_option maxHeartbeats 4000000 in
set_option maxRecDepth 100000 in
theorem law_c_retie {p : Program} {l : Launch} {e : Env} {s : State} {m : MethodId} {below : List Frame} {meth : Method} {c : Code} {Q : State → Prop} {b Ls : Nat} {xs : Nat → Int32} {D : va_G} {cy cl : ClassId} {h h' o i N L : Nat} {a a' : Nat → Nat} {A : Nat → Nat → Int32} {th : Int32} {O : Nat → Int64} {H : Heap} {locs : List Loc} {cells slots : Nat} {ls : Array Slot} (C0 : lw_At p s m meth c b Ls xs) (hL9 : Ls ≤ 2048) (hl0 : l.stackTraces = false) (hT : kr_T s) (hw : kr_wf N L A) (hwe : kr_we N A) (hK : va_K D vwCl [(cy, .int), (cl, .long)] s) (hP : va_P D vwCl (kr_WW cy cl h a h' a' o N L A th N L A O) H) (hD : va_D (kr_new s) (kr_WW cy cl h a h' a' o N L A th N L A O)) (hS : va_S (kr_new s) s.heap H locs) (hi : i + 4 ≤ Ls) (hl : lv_has ls 9 [(0, .ref b), (1, .ref h), (2, .ref h'), (3, .ref o), (4, .int (nI i))]) (hf : cells + 16 ≤ 601024 ∧ slots + 112 ≤ 7293034) (kT : ∀ (N L : Nat) (A : Nat → Nat → Int32) (th : Int32) (O : Nat → Int64) (H : Heap) (locs : List Loc) (ls : Array Slot), kr_wf N L A → kr_we N A → va_P D vwCl (kr_WW cy cl h a h' a' o N L A th N L A O) H → va_D (kr_new s) (kr_WW cy cl h a h' a' o N L A th N L A O) → va_S (kr_new s) s.heap H locs → lv_has ls 9 [(0, .ref b), (1, .ref h), (2, .ref h'), (3, .ref o), (4, .int (nI i))] → W p l e room_1 s m #[Value.ref b] below meth c H locs (cells + 16) (slots + 112) Q (F0 m 1889 ls [])) : W p l e room_1 s m #[Value.ref b] below meth c H locs cells slots Q (F0 m 480 ls []) := by
  obtain ⟨hx, hb, hr, hml, hown, hts0, hX, hbl, hlocks, hgv⟩ := id C0
  have hts : ∀ w ∈ kr_all, w.before #[Value.ref b] s = true := fun w hw => hts0 w (List.mem_filter.mp hw).1
  have hown : s.vm.findClass RL = some m.cls := hown
  have hb : c.code = cL_law := hb
  have hbA : ¬ (kr_new s) b := Nat.not_le.mpr hbl
  obtain ⟨x, ex1⟩ : ∃ v, v = xs (nI (i + 1)).toNatClampNeg := ⟨_, rfl⟩
  obtain ⟨y, ex2⟩ : ∃ v, v = xs (nI (i + 2)).toNatClampNeg := ⟨_, rfl⟩
  obtain ⟨z, ex3⟩ : ∃ v, v = xs (nI (i + 3)).toNatClampNeg := ⟨_, rfl⟩
  refine lv_aload_n hx hb dL_law_480 rfl (lv_at hl 1 rfl) ?_
  refine lv_aload_n hx hb dL_law_481 rfl (lv_at hl 0 rfl) ?_
  refine lv_iload hx hb dL_law_482 (lv_at hl 4 rfl) ?_
  refine lv_iconst (v := 1) hx hb dL_law_484 (by decide) ?_
  refine kr_iaddN hx hb i 1 dL_law_485 ?_
  refine va_sld hx hb hX hbl hbA hS (vp_in_nI (by omega) (by omega)) dL_law_486 ?_
  rw [← ex1]
  refine lv_aload_n hx hb dL_law_487 rfl (lv_at hl 0 rfl) ?_
  refine lv_iload hx hb dL_law_488 (lv_at hl 4 rfl) ?_
  refine lv_iconst (v := 2) hx hb dL_law_490 (by decide) ?_
  refine kr_iaddN hx hb i 2 dL_law_491 ?_
  refine va_sld hx hb hX hbl hbA hS (vp_in_nI (by omega) (by omega)) dL_law_492 ?_
  rw [← ex2]
  refine lv_aload_n hx hb dL_law_493 rfl (lv_at hl 0 rfl) ?_
  refine lv_iload hx hb dL_law_494 (lv_at hl 4 rfl) ?_
  refine lv_iconst (v := 3) hx hb dL_law_496 (by decide) ?_
  refine kr_iaddN hx hb i 3 dL_law_497 ?_
  refine va_sld hx hb hX hbl hbA hS (vp_in_nI (by omega) (by omega)) dL_law_498 ?_
  rw [← ex3]
  refine lv_aload_n hx hb dL_law_499 rfl (lv_at hl 3 rfl) ?_
  refine kr_lawH (n := 5) (As := [.ref h, .int x, .int y, .int z, .ref o]) (rest := []) ⟨hx, hb, hml, hown, hts⟩ (h_L_retie l hl0 D cy cl h a o N L A O H.size x y z hw) kgh_yL_retie ⟨rfl, rfl⟩ (by decide +kernel) ⟨Nat.le_of_ble_eq_true rfl, Nat.le_of_ble_eq_true rfl⟩ hP hK hD hS hT rfl hl.1 rfl (Nat.le_of_ble_eq_true rfl) dL_law_500 ⟨show cells + 1 ≤ 601024 by omega, show slots + 6 ≤ 7293034 by omega⟩ (fun r9 O2 H locs e9 hP hD hS => ?_)
  obtain ⟨e9, hO⟩ := e9
  refine lv_istore (lv' := [(5, .int r9), (0, .ref b), (1, .ref h), (2, .ref h'), (3, .ref o), (4, .int (nI i))]) hx hb dL_law_503 hl (by decide) rfl (fun ls hl => ?_)
  refine lv_aload_n hx hb dL_law_505 rfl (lv_at hl 3 rfl) ?_
  refine lv_aload_n hx hb dL_law_506 rfl (lv_at hl 1 rfl) ?_
  refine lv_iload hx hb dL_law_507 (lv_at hl 5 rfl) ?_
  refine lv_iconst (v := 1) hx hb dL_law_509 (by decide) ?_
  refine kr_iaddN hx hb i 1 dL_law_510 ?_
  refine va_sld hx hb hX hbl hbA hS (vp_in_nI (by omega) (by omega)) dL_law_511 ?_
  rw [← ex1]
  refine lv_aload_n hx hb dL_law_512 rfl (lv_at hl 1 rfl) ?_
  refine lv_iload hx hb dL_law_513 (lv_at hl 5 rfl) ?_
  refine lv_iconst (v := 2) hx hb dL_law_515 (by decide) ?_
  refine kr_iaddN hx hb i 2 dL_law_516 ?_
  refine va_sld hx hb hX hbl hbA hS (vp_in_nI (by omega) (by omega)) dL_law_517 ?_
  rw [← ex2]
  refine lv_aload_n hx hb dL_law_518 rfl (lv_at hl 1 rfl) ?_
  refine lv_iload hx hb dL_law_519 (lv_at hl 5 rfl) ?_
  refine lv_iconst (v := 3) hx hb dL_law_521 (by decide) ?_
  refine kr_iaddN hx hb i 3 dL_law_522 ?_
  refine va_sld hx hb hX hbl hbA hS (vp_in_nI (by omega) (by omega)) dL_law_523 ?_
  rw [← ex3]
  refine kr_lawX (n := 3) (As := [.int x, .int y, .int z]) (rest := []) ⟨hx, hb, hml, hown, hts⟩ (c_X1_retie l D cy h' a' th N L A H.size x y z hw) kg_RL_120 ⟨rfl, rfl⟩ (by decide +kernel) ⟨Nat.le_of_ble_eq_true rfl, Nat.le_of_ble_eq_true rfl⟩ hP hK hD hS rfl hl.1 rfl (Nat.le_of_ble_eq_true rfl) dL_law_524 ⟨show cells + 1 ≤ 601024 by omega, show slots + 6 ≤ 7293034 by omega⟩ (fun r8 H locs e8 hP hD hS => ?_)
  have hww : kr_wf N L (if kr_cd (kr_q L A x y ∧ kr_i N z) (A 0 (kr_ix z) = if y = 0 then 1 else 0) True = 0 then kr_rA A (5 * kr_ix x + kr_ix y) (kr_ix z) else A) ∧ kr_we N (if kr_cd (kr_q L A x y ∧ kr_i N z) (A 0 (kr_ix z) = if y = 0 then 1 else 0) True = 0 then kr_rA A (5 * kr_ix x + kr_ix y) (kr_ix z) else A) := by
    by_cases hc : kr_cd (kr_q L A x y ∧ kr_i N z) (A 0 (kr_ix z) = if y = 0 then 1 else 0) True = 0
    · obtain ⟨hc1, hc2, hc3⟩ := kr_cdE hc
      rw [if_pos hc]
      obtain ⟨hk2, ez⟩ := kr_exN hw hc1.2
      exact ⟨kr_wf_r hw hk2, hwe⟩
    · rw [if_neg hc]
      exact ⟨hw, hwe⟩
  refine lv_istore (lv' := [(6, .int r8), (5, .int r9), (0, .ref b), (1, .ref h), (2, .ref h'), (3, .ref o), (4, .int (nI i))]) hx hb dL_law_527 hl (by decide) rfl (fun ls hl => ?_)
  refine lv_aload_n hx hb dL_law_529 rfl (lv_at hl 4 rfl) ?_
  refine kr_vI (n := 0) (As := []) (rest := []) ⟨hx, hb, hml, hown, hts⟩ (c_X1_thrown l D cy h' a' _ _ _ _) kg_RL_104 ⟨rfl, rfl⟩ (by decide +kernel) ⟨Nat.le_of_ble_eq_true rfl, Nat.le_of_ble_eq_true rfl⟩ (kr_pw1 hP hK) rfl hl.1 rfl (Nat.le_of_ble_eq_true rfl) dL_law_530 ⟨show cells + 1 ≤ 601024 by omega, show slots + 6 ≤ 7293034 by omega⟩ (fun r7 e7 => ?_)
  refine lv_iload hx hb dL_law_533 (lv_at hl 1 rfl) ?_
  refine lv_icmp_eq (tgt := 540) hx hb dL_law_535 (by decide) (fun c535 => ?_) (fun c535 => absurd (e7.trans e9.symm) c535)
  refine lv_iload hx hb dL_law_540 (lv_at hl 1 rfl) ?_
  refine lv_if_ne (tgt := 557) hx hb dL_law_542 (by decide) (fun c542 => ?_) (fun c542 => ?_)
  · refine lv_goto (tgt := 1889) hx hb dL_law_557 (by decide) ?_
    refine W.widen (k := cells + 16) (n := slots + 112) (by omega) (by omega) ?_
    exact kT _ _ _ _ _ _ _ ls hww.1 hww.2 hP hD hS (lv_sub hl [2, 3, 4, 5, 6] rfl)
  · have hc : kr_cd (kr_q L A x y ∧ kr_i N z) (A 0 (kr_ix z) = if y = 0 then 1 else 0) True = 0 := e9.symm.trans c542
    have hO2 : O2 (0 : Int32).toNatClampNeg = Int32.toInt64 r8 := (hO hc).trans (congrArg Int32.toInt64 (e8 hc).symm)
    refine lv_aload_n hx hb dL_law_545 rfl (lv_at hl 5 rfl) ?_
    refine lv_iconst (v := 0) hx hb dL_law_546 (by decide) ?_
    refine va_lald hx hb hK hP 18 1 rfl rfl (show ¬ ((0 : Int32) < 0 ∨ 1 ≤ (0 : Int32).toNatClampNeg) by decide) dL_law_547 ?_
    rw [hO2]
    refine lv_iload hx hb dL_law_548 (lv_at hl 0 rfl) ?_
    refine lv_i2l (v := r8.toInt64) hx hb dL_law_550 rfl ?_
    refine W.lcmp hx hb dL_law_551 ?_
    refine lv_if_eq (tgt := 557) hx hb dL_law_552 (by decide) (fun c552 => ?_) (fun c552 => absurd (kr_lg _) c552)
    refine lv_goto (tgt := 1889) hx hb dL_law_557 (by decide) ?_
    refine W.widen (k := cells + 16) (n := slots + 112) (by omega) (by omega) ?_
    exact kT _ _ _ _ _ _ _ ls hww.1 hww.2 hP hD hS (lv_sub hl [2, 3, 4, 5, 6] rfl)
theorem kgh_yL_pull : GoodIn kr_all (va_wsS RL 121 yL_pull (Cond.codeWith yL_pull cL_pull 5 (some .int) [(0, 10, 13, 13), (0, 10, 17, 15), (0, 10, 21, 17)] :: kr_all)) := kr_gW kq_407 kq_408 kq_47 kq_409
theorem kg_RL_123 : GoodIn kr_all (wsV RL 123 RX1 yX1_pull (Cond.code yX1_pull cX1_pull 5 (some .int) :: kr_all)) := kr_gV kq_625 kq_626 kq_627 kq_49 kq_628
set_option maxHeartbeats 4000000 in
set_option maxRecDepth 100000 in
theorem law_c_pull {p : Program} {l : Launch} {e : Env} {s : State} {m : MethodId} {below : List Frame} {meth : Method} {c : Code} {Q : State → Prop} {b Ls : Nat} {xs : Nat → Int32} {D : va_G} {cy cl : ClassId} {h h' o i N L : Nat} {a a' : Nat → Nat} {A : Nat → Nat → Int32} {th : Int32} {O : Nat → Int64} {H : Heap} {locs : List Loc} {cells slots : Nat} {ls : Array Slot} (C0 : lw_At p s m meth c b Ls xs) (hL9 : Ls ≤ 2048) (hl0 : l.stackTraces = false) (hT : kr_T s) (hw : kr_wf N L A) (hwe : kr_we N A) (hK : va_K D vwCl [(cy, .int), (cl, .long)] s) (hP : va_P D vwCl (kr_WW cy cl h a h' a' o N L A th N L A O) H) (hD : va_D (kr_new s) (kr_WW cy cl h a h' a' o N L A th N L A O)) (hS : va_S (kr_new s) s.heap H locs) (hi : i + 4 ≤ Ls) (hl : lv_has ls 9 [(0, .ref b), (1, .ref h), (2, .ref h'), (3, .ref o), (4, .int (nI i))]) (hf : cells + 16 ≤ 601024 ∧ slots + 112 ≤ 7293034) (kT : ∀ (N L : Nat) (A : Nat → Nat → Int32) (th : Int32) (O : Nat → Int64) (H : Heap) (locs : List Loc) (ls : Array Slot), kr_wf N L A → kr_we N A → va_P D vwCl (kr_WW cy cl h a h' a' o N L A th N L A O) H → va_D (kr_new s) (kr_WW cy cl h a h' a' o N L A th N L A O) → va_S (kr_new s) s.heap H locs → lv_has ls 9 [(0, .ref b), (1, .ref h), (2, .ref h'), (3, .ref o), (4, .int (nI i))] → W p l e room_1 s m #[Value.ref b] below meth c H locs (cells + 16) (slots + 112) Q (F0 m 1889 ls [])) : W p l e room_1 s m #[Value.ref b] below meth c H locs cells slots Q (F0 m 560 ls []) := by
  obtain ⟨hx, hb, hr, hml, hown, hts0, hX, hbl, hlocks, hgv⟩ := id C0
  have hts : ∀ w ∈ kr_all, w.before #[Value.ref b] s = true := fun w hw => hts0 w (List.mem_filter.mp hw).1
  have hown : s.vm.findClass RL = some m.cls := hown
  have hb : c.code = cL_law := hb
  have hbA : ¬ (kr_new s) b := Nat.not_le.mpr hbl
  obtain ⟨x, ex1⟩ : ∃ v, v = xs (nI (i + 1)).toNatClampNeg := ⟨_, rfl⟩
  obtain ⟨y, ex2⟩ : ∃ v, v = xs (nI (i + 2)).toNatClampNeg := ⟨_, rfl⟩
  refine lv_aload_n hx hb dL_law_560 rfl (lv_at hl 1 rfl) ?_
  refine lv_aload_n hx hb dL_law_561 rfl (lv_at hl 0 rfl) ?_
  refine lv_iload hx hb dL_law_562 (lv_at hl 4 rfl) ?_
  refine lv_iconst (v := 1) hx hb dL_law_564 (by decide) ?_
  refine kr_iaddN hx hb i 1 dL_law_565 ?_
  refine va_sld hx hb hX hbl hbA hS (vp_in_nI (by omega) (by omega)) dL_law_566 ?_
  rw [← ex1]
  refine lv_aload_n hx hb dL_law_567 rfl (lv_at hl 0 rfl) ?_
  refine lv_iload hx hb dL_law_568 (lv_at hl 4 rfl) ?_
  refine lv_iconst (v := 2) hx hb dL_law_570 (by decide) ?_
  refine kr_iaddN hx hb i 2 dL_law_571 ?_
  refine va_sld hx hb hX hbl hbA hS (vp_in_nI (by omega) (by omega)) dL_law_572 ?_
  rw [← ex2]
  refine lv_aload_n hx hb dL_law_573 rfl (lv_at hl 3 rfl) ?_
  refine kr_lawH (n := 4) (As := [.ref h, .int x, .int y, .ref o]) (rest := []) ⟨hx, hb, hml, hown, hts⟩ (h_L_pull l hl0 D cy cl h a o N L A O H.size x y hw) kgh_yL_pull ⟨rfl, rfl⟩ (by decide +kernel) ⟨Nat.le_of_ble_eq_true rfl, Nat.le_of_ble_eq_true rfl⟩ hP hK hD hS hT rfl hl.1 rfl (Nat.le_of_ble_eq_true rfl) dL_law_574 ⟨show cells + 1 ≤ 601024 by omega, show slots + 6 ≤ 7293034 by omega⟩ (fun r9 O2 H locs e9 hP hD hS => ?_)
  obtain ⟨e9, hO⟩ := e9
  refine lv_istore (lv' := [(5, .int r9), (0, .ref b), (1, .ref h), (2, .ref h'), (3, .ref o), (4, .int (nI i))]) hx hb dL_law_577 hl (by decide) rfl (fun ls hl => ?_)
  refine lv_aload_n hx hb dL_law_579 rfl (lv_at hl 3 rfl) ?_
  refine lv_aload_n hx hb dL_law_580 rfl (lv_at hl 1 rfl) ?_
  refine lv_iload hx hb dL_law_581 (lv_at hl 5 rfl) ?_
  refine lv_iconst (v := 1) hx hb dL_law_583 (by decide) ?_
  refine kr_iaddN hx hb i 1 dL_law_584 ?_
  refine va_sld hx hb hX hbl hbA hS (vp_in_nI (by omega) (by omega)) dL_law_585 ?_
  rw [← ex1]
  refine lv_aload_n hx hb dL_law_586 rfl (lv_at hl 1 rfl) ?_
  refine lv_iload hx hb dL_law_587 (lv_at hl 5 rfl) ?_
  refine lv_iconst (v := 2) hx hb dL_law_589 (by decide) ?_
  refine kr_iaddN hx hb i 2 dL_law_590 ?_
  refine va_sld hx hb hX hbl hbA hS (vp_in_nI (by omega) (by omega)) dL_law_591 ?_
  rw [← ex2]
  refine kr_lawX (n := 2) (As := [.int x, .int y]) (rest := []) ⟨hx, hb, hml, hown, hts⟩ (c_X1_pull l D cy h' a' th N L A H.size x y hw) kg_RL_123 ⟨rfl, rfl⟩ (by decide +kernel) ⟨Nat.le_of_ble_eq_true rfl, Nat.le_of_ble_eq_true rfl⟩ hP hK hD hS rfl hl.1 rfl (Nat.le_of_ble_eq_true rfl) dL_law_592 ⟨show cells + 1 ≤ 601024 by omega, show slots + 6 ≤ 7293034 by omega⟩ (fun r8 H locs e8 hP hD hS => ?_)
  have hww : kr_wf N L (if kr_cd (kr_i L x) (kr_o y) (¬ A 5 (kr_ix x) = 0) = 0 then kr_pA A (kr_ix x) y else A) ∧ kr_we N (if kr_cd (kr_i L x) (kr_o y) (¬ A 5 (kr_ix x) = 0) = 0 then kr_pA A (kr_ix x) y else A) := by
    by_cases hc : kr_cd (kr_i L x) (kr_o y) (¬ A 5 (kr_ix x) = 0) = 0
    · obtain ⟨hc1, hc2, hc3⟩ := kr_cdE hc
      rw [if_pos hc]
      obtain ⟨hk, ex2⟩ := kr_exL hw hc1
      exact ⟨kr_wf_p hw hk (Nat.le_refl _), hwe⟩
    · rw [if_neg hc]
      exact ⟨hw, hwe⟩
  refine lv_istore (lv' := [(6, .int r8), (5, .int r9), (0, .ref b), (1, .ref h), (2, .ref h'), (3, .ref o), (4, .int (nI i))]) hx hb dL_law_595 hl (by decide) rfl (fun ls hl => ?_)
  refine lv_aload_n hx hb dL_law_597 rfl (lv_at hl 4 rfl) ?_
  refine kr_vI (n := 0) (As := []) (rest := []) ⟨hx, hb, hml, hown, hts⟩ (c_X1_thrown l D cy h' a' _ _ _ _) kg_RL_104 ⟨rfl, rfl⟩ (by decide +kernel) ⟨Nat.le_of_ble_eq_true rfl, Nat.le_of_ble_eq_true rfl⟩ (kr_pw1 hP hK) rfl hl.1 rfl (Nat.le_of_ble_eq_true rfl) dL_law_598 ⟨show cells + 1 ≤ 601024 by omega, show slots + 6 ≤ 7293034 by omega⟩ (fun r7 e7 => ?_)
  refine lv_iload hx hb dL_law_601 (lv_at hl 1 rfl) ?_
  refine lv_icmp_eq (tgt := 608) hx hb dL_law_603 (by decide) (fun c603 => ?_) (fun c603 => absurd (e7.trans e9.symm) c603)
  refine lv_iload hx hb dL_law_608 (lv_at hl 1 rfl) ?_
  refine lv_if_ne (tgt := 625) hx hb dL_law_610 (by decide) (fun c610 => ?_) (fun c610 => ?_)
  · refine lv_goto (tgt := 1889) hx hb dL_law_625 (by decide) ?_
    refine W.widen (k := cells + 16) (n := slots + 112) (by omega) (by omega) ?_
    exact kT _ _ _ _ _ _ _ ls hww.1 hww.2 hP hD hS (lv_sub hl [2, 3, 4, 5, 6] rfl)
  · have hc : kr_cd (kr_i L x) (kr_o y) (¬ A 5 (kr_ix x) = 0) = 0 := e9.symm.trans c610
    have hO2 : O2 (0 : Int32).toNatClampNeg = Int32.toInt64 r8 := (hO hc).trans (congrArg Int32.toInt64 (e8 hc).symm)
    refine lv_aload_n hx hb dL_law_613 rfl (lv_at hl 5 rfl) ?_
    refine lv_iconst (v := 0) hx hb dL_law_614 (by decide) ?_
    refine va_lald hx hb hK hP 18 1 rfl rfl (show ¬ ((0 : Int32) < 0 ∨ 1 ≤ (0 : Int32).toNatClampNeg) by decide) dL_law_615 ?_
    rw [hO2]
    refine lv_iload hx hb dL_law_616 (lv_at hl 0 rfl) ?_
    refine lv_i2l (v := r8.toInt64) hx hb dL_law_618 rfl ?_
    refine W.lcmp hx hb dL_law_619 ?_
    refine lv_if_eq (tgt := 625) hx hb dL_law_620 (by decide) (fun c620 => ?_) (fun c620 => absurd (kr_lg _) c620)
    refine lv_goto (tgt := 1889) hx hb dL_law_625 (by decide) ?_
    refine W.widen (k := cells + 16) (n := slots + 112) (by omega) (by omega) ?_
    exact kT _ _ _ _ _ _ _ ls hww.1 hww.2 hP hD hS (lv_sub hl [2, 3, 4, 5, 6] rfl)
theorem kg_RL_124 : GoodIn kr_all (wsV RL 124 RX0 yX0_knots (Cond.code yX0_knots cX0_knots 1 (some .int) :: kr_all)) := kr_gV kq_97 kq_98 kq_99 kq_48 kq_100
theorem kg_RL_127 : GoodIn kr_all (wsV RL 127 RX1 yX1_knots (Cond.code yX1_knots cX1_knots 1 (some .int) :: kr_all)) := kr_gV kq_650 kq_651 kq_652 kq_49 kq_653
set_option maxHeartbeats 4000000 in
set_option maxRecDepth 100000 in
theorem law_c_knots {p : Program} {l : Launch} {e : Env} {s : State} {m : MethodId} {below : List Frame} {meth : Method} {c : Code} {Q : State → Prop} {b Ls : Nat} {xs : Nat → Int32} {D : va_G} {cy cl : ClassId} {h h' o i N L : Nat} {a a' : Nat → Nat} {A : Nat → Nat → Int32} {th : Int32} {O : Nat → Int64} {H : Heap} {locs : List Loc} {cells slots : Nat} {ls : Array Slot} (C0 : lw_At p s m meth c b Ls xs) (hL9 : Ls ≤ 2048) (hl0 : l.stackTraces = false) (hT : kr_T s) (hw : kr_wf N L A) (hwe : kr_we N A) (hK : va_K D vwCl [(cy, .int), (cl, .long)] s) (hP : va_P D vwCl (kr_WW cy cl h a h' a' o N L A th N L A O) H) (hD : va_D (kr_new s) (kr_WW cy cl h a h' a' o N L A th N L A O)) (hS : va_S (kr_new s) s.heap H locs) (hi : i + 4 ≤ Ls) (hl : lv_has ls 9 [(0, .ref b), (1, .ref h), (2, .ref h'), (3, .ref o), (4, .int (nI i))]) (hf : cells + 16 ≤ 601024 ∧ slots + 112 ≤ 7293034) (kT : ∀ (N L : Nat) (A : Nat → Nat → Int32) (th : Int32) (O : Nat → Int64) (H : Heap) (locs : List Loc) (ls : Array Slot), kr_wf N L A → kr_we N A → va_P D vwCl (kr_WW cy cl h a h' a' o N L A th N L A O) H → va_D (kr_new s) (kr_WW cy cl h a h' a' o N L A th N L A O) → va_S (kr_new s) s.heap H locs → lv_has ls 9 [(0, .ref b), (1, .ref h), (2, .ref h'), (3, .ref o), (4, .int (nI i))] → W p l e room_1 s m #[Value.ref b] below meth c H locs (cells + 16) (slots + 112) Q (F0 m 1889 ls [])) : W p l e room_1 s m #[Value.ref b] below meth c H locs cells slots Q (F0 m 628 ls []) := by
  obtain ⟨hx, hb, hr, hml, hown, hts0, hX, hbl, hlocks, hgv⟩ := id C0
  have hts : ∀ w ∈ kr_all, w.before #[Value.ref b] s = true := fun w hw => hts0 w (List.mem_filter.mp hw).1
  have hown : s.vm.findClass RL = some m.cls := hown
  have hb : c.code = cL_law := hb
  have hbA : ¬ (kr_new s) b := Nat.not_le.mpr hbl
  refine lv_aload_n hx hb dL_law_628 rfl (lv_at hl 1 rfl) ?_
  refine kr_vI (n := 0) (As := []) (rest := []) ⟨hx, hb, hml, hown, hts⟩ (c_X0_knots l D cy h a N L A) kg_RL_124 ⟨rfl, rfl⟩ (by decide +kernel) ⟨Nat.le_of_ble_eq_true rfl, Nat.le_of_ble_eq_true rfl⟩ (kr_pw0 hP hK) rfl hl.1 rfl (Nat.le_of_ble_eq_true rfl) dL_law_629 ⟨show cells ≤ 601024 by omega, show slots ≤ 7293034 by omega⟩ (fun r9 e9 => ?_)
  refine lv_aload_n hx hb dL_law_632 rfl (lv_at hl 2 rfl) ?_
  refine kr_lawX (n := 0) (As := []) (rest := [.int r9]) ⟨hx, hb, hml, hown, hts⟩ (c_X1_knots l D cy h' a' th N L A H.size) kg_RL_127 ⟨rfl, rfl⟩ (by decide +kernel) ⟨Nat.le_of_ble_eq_true rfl, Nat.le_of_ble_eq_true rfl⟩ hP hK hD hS rfl hl.1 rfl (Nat.le_of_ble_eq_true rfl) dL_law_633 ⟨show cells + 0 ≤ 601024 by omega, show slots + 0 ≤ 7293034 by omega⟩ (fun r8 H locs e8 hP hD hS => ?_)
  refine lv_icmp_eq (tgt := 1889) hx hb dL_law_636 (by decide) (fun c636 => ?_) (fun c636 => absurd (e9.trans e8.symm) c636)
  refine W.widen (k := cells + 16) (n := slots + 112) (by omega) (by omega) ?_
  exact kT _ _ _ _ _ _ _ ls hw hwe hP hD hS (lv_sub hl [0, 1, 2, 3, 4] rfl)
theorem kgh_yL_knotsOf : GoodIn kr_all (va_wsS RL 128 yL_knotsOf (Cond.codeWith yL_knotsOf cL_knotsOf 4 (some .int) [(0, 9, 12, 13)] :: kr_all)) := kr_gW kq_430 kq_431 kq_47 kq_432
theorem kg_RL_131 : GoodIn kr_all (wsV RL 131 RX1 yX1_knotsOf (Cond.code yX1_knotsOf cX1_knotsOf 2 (some .int) :: kr_all)) := kr_gV kq_658 kq_659 kq_660 kq_49 kq_661
set_option maxHeartbeats 4000000 in
set_option maxRecDepth 100000 in
theorem law_c_knotsOf {p : Program} {l : Launch} {e : Env} {s : State} {m : MethodId} {below : List Frame} {meth : Method} {c : Code} {Q : State → Prop} {b Ls : Nat} {xs : Nat → Int32} {D : va_G} {cy cl : ClassId} {h h' o i N L : Nat} {a a' : Nat → Nat} {A : Nat → Nat → Int32} {th : Int32} {O : Nat → Int64} {H : Heap} {locs : List Loc} {cells slots : Nat} {ls : Array Slot} (C0 : lw_At p s m meth c b Ls xs) (hL9 : Ls ≤ 2048) (hl0 : l.stackTraces = false) (hT : kr_T s) (hw : kr_wf N L A) (hwe : kr_we N A) (hK : va_K D vwCl [(cy, .int), (cl, .long)] s) (hP : va_P D vwCl (kr_WW cy cl h a h' a' o N L A th N L A O) H) (hD : va_D (kr_new s) (kr_WW cy cl h a h' a' o N L A th N L A O)) (hS : va_S (kr_new s) s.heap H locs) (hi : i + 4 ≤ Ls) (hl : lv_has ls 9 [(0, .ref b), (1, .ref h), (2, .ref h'), (3, .ref o), (4, .int (nI i))]) (hf : cells + 16 ≤ 601024 ∧ slots + 112 ≤ 7293034) (kT : ∀ (N L : Nat) (A : Nat → Nat → Int32) (th : Int32) (O : Nat → Int64) (H : Heap) (locs : List Loc) (ls : Array Slot), kr_wf N L A → kr_we N A → va_P D vwCl (kr_WW cy cl h a h' a' o N L A th N L A O) H → va_D (kr_new s) (kr_WW cy cl h a h' a' o N L A th N L A O) → va_S (kr_new s) s.heap H locs → lv_has ls 9 [(0, .ref b), (1, .ref h), (2, .ref h'), (3, .ref o), (4, .int (nI i))] → W p l e room_1 s m #[Value.ref b] below meth c H locs (cells + 16) (slots + 112) Q (F0 m 1889 ls [])) : W p l e room_1 s m #[Value.ref b] below meth c H locs cells slots Q (F0 m 641 ls []) := by
  obtain ⟨hx, hb, hr, hml, hown, hts0, hX, hbl, hlocks, hgv⟩ := id C0
  have hts : ∀ w ∈ kr_all, w.before #[Value.ref b] s = true := fun w hw => hts0 w (List.mem_filter.mp hw).1
  have hown : s.vm.findClass RL = some m.cls := hown
  have hb : c.code = cL_law := hb
  have hbA : ¬ (kr_new s) b := Nat.not_le.mpr hbl
  obtain ⟨x, ex1⟩ : ∃ v, v = xs (nI (i + 1)).toNatClampNeg := ⟨_, rfl⟩
  refine lv_aload_n hx hb dL_law_641 rfl (lv_at hl 1 rfl) ?_
  refine lv_aload_n hx hb dL_law_642 rfl (lv_at hl 0 rfl) ?_
  refine lv_iload hx hb dL_law_643 (lv_at hl 4 rfl) ?_
  refine lv_iconst (v := 1) hx hb dL_law_645 (by decide) ?_
  refine kr_iaddN hx hb i 1 dL_law_646 ?_
  refine va_sld hx hb hX hbl hbA hS (vp_in_nI (by omega) (by omega)) dL_law_647 ?_
  rw [← ex1]
  refine lv_aload_n hx hb dL_law_648 rfl (lv_at hl 3 rfl) ?_
  refine kr_lawH (n := 3) (As := [.ref h, .int x, .ref o]) (rest := []) ⟨hx, hb, hml, hown, hts⟩ (h_L_knotsOf l hl0 D cy cl h a o N L A O H.size x hw) kgh_yL_knotsOf ⟨rfl, rfl⟩ (by decide +kernel) ⟨Nat.le_of_ble_eq_true rfl, Nat.le_of_ble_eq_true rfl⟩ hP hK hD hS hT rfl hl.1 rfl (Nat.le_of_ble_eq_true rfl) dL_law_649 ⟨show cells + 1 ≤ 601024 by omega, show slots + 6 ≤ 7293034 by omega⟩ (fun r9 O2 H locs e9 hP hD hS => ?_)
  obtain ⟨e9, hO⟩ := e9
  refine lv_istore (lv' := [(5, .int r9), (0, .ref b), (1, .ref h), (2, .ref h'), (3, .ref o), (4, .int (nI i))]) hx hb dL_law_652 hl (by decide) rfl (fun ls hl => ?_)
  refine lv_aload_n hx hb dL_law_654 rfl (lv_at hl 3 rfl) ?_
  refine lv_aload_n hx hb dL_law_655 rfl (lv_at hl 1 rfl) ?_
  refine lv_iload hx hb dL_law_656 (lv_at hl 5 rfl) ?_
  refine lv_iconst (v := 1) hx hb dL_law_658 (by decide) ?_
  refine kr_iaddN hx hb i 1 dL_law_659 ?_
  refine va_sld hx hb hX hbl hbA hS (vp_in_nI (by omega) (by omega)) dL_law_660 ?_
  rw [← ex1]
  refine kr_lawX (n := 1) (As := [.int x]) (rest := []) ⟨hx, hb, hml, hown, hts⟩ (c_X1_knotsOf l D cy h' a' th N L A H.size x hw) kg_RL_131 ⟨rfl, rfl⟩ (by decide +kernel) ⟨Nat.le_of_ble_eq_true rfl, Nat.le_of_ble_eq_true rfl⟩ hP hK hD hS rfl hl.1 rfl (Nat.le_of_ble_eq_true rfl) dL_law_661 ⟨show cells + 1 ≤ 601024 by omega, show slots + 6 ≤ 7293034 by omega⟩ (fun r8 H locs e8 hP hD hS => ?_)
  refine lv_istore (lv' := [(6, .int r8), (5, .int r9), (0, .ref b), (1, .ref h), (2, .ref h'), (3, .ref o), (4, .int (nI i))]) hx hb dL_law_664 hl (by decide) rfl (fun ls hl => ?_)
  refine lv_aload_n hx hb dL_law_666 rfl (lv_at hl 4 rfl) ?_
  refine kr_vI (n := 0) (As := []) (rest := []) ⟨hx, hb, hml, hown, hts⟩ (c_X1_thrown l D cy h' a' _ _ _ _) kg_RL_104 ⟨rfl, rfl⟩ (by decide +kernel) ⟨Nat.le_of_ble_eq_true rfl, Nat.le_of_ble_eq_true rfl⟩ (kr_pw1 hP hK) rfl hl.1 rfl (Nat.le_of_ble_eq_true rfl) dL_law_667 ⟨show cells + 1 ≤ 601024 by omega, show slots + 6 ≤ 7293034 by omega⟩ (fun r7 e7 => ?_)
  refine lv_iload hx hb dL_law_670 (lv_at hl 1 rfl) ?_
  refine lv_icmp_eq (tgt := 677) hx hb dL_law_672 (by decide) (fun c672 => ?_) (fun c672 => absurd (e7.trans e9.symm) c672)
  refine lv_iload hx hb dL_law_677 (lv_at hl 1 rfl) ?_
  refine lv_if_ne (tgt := 694) hx hb dL_law_679 (by decide) (fun c679 => ?_) (fun c679 => ?_)
  · refine lv_goto (tgt := 1889) hx hb dL_law_694 (by decide) ?_
    refine W.widen (k := cells + 16) (n := slots + 112) (by omega) (by omega) ?_
    exact kT _ _ _ _ _ _ _ ls hw hwe hP hD hS (lv_sub hl [2, 3, 4, 5, 6] rfl)
  · have hc : kr_cd (x = 0 ∨ x = 1) True True = 0 := e9.symm.trans c679
    have hO2 : O2 (0 : Int32).toNatClampNeg = Int32.toInt64 r8 := (hO hc).trans (congrArg Int32.toInt64 (e8 hc).symm)
    refine lv_aload_n hx hb dL_law_682 rfl (lv_at hl 5 rfl) ?_
    refine lv_iconst (v := 0) hx hb dL_law_683 (by decide) ?_
    refine va_lald hx hb hK hP 18 1 rfl rfl (show ¬ ((0 : Int32) < 0 ∨ 1 ≤ (0 : Int32).toNatClampNeg) by decide) dL_law_684 ?_
    rw [hO2]
    refine lv_iload hx hb dL_law_685 (lv_at hl 0 rfl) ?_
    refine lv_i2l (v := r8.toInt64) hx hb dL_law_687 rfl ?_
    refine W.lcmp hx hb dL_law_688 ?_
    refine lv_if_eq (tgt := 694) hx hb dL_law_689 (by decide) (fun c689 => ?_) (fun c689 => absurd (kr_lg _) c689)
    refine lv_goto (tgt := 1889) hx hb dL_law_694 (by decide) ?_
    refine W.widen (k := cells + 16) (n := slots + 112) (by omega) (by omega) ?_
    exact kT _ _ _ _ _ _ _ ls hw hwe hP hD hS (lv_sub hl [2, 3, 4, 5, 6] rfl)
theorem kgh_yL_kindOf : GoodIn kr_all (va_wsS RL 132 yL_kindOf (Cond.codeWith yL_kindOf cL_kindOf 4 (some .int) [(0, 9, 12, 13)] :: kr_all)) := kr_gW kq_441 kq_442 kq_47 kq_443
theorem kg_RL_134 : GoodIn kr_all (wsV RL 134 RX1 yX1_kindOf (Cond.code yX1_kindOf cX1_kindOf 2 (some .int) :: kr_all)) := kr_gV kq_666 kq_667 kq_668 kq_49 kq_669
set_option maxHeartbeats 4000000 in
set_option maxRecDepth 100000 in
theorem law_c_kindOf {p : Program} {l : Launch} {e : Env} {s : State} {m : MethodId} {below : List Frame} {meth : Method} {c : Code} {Q : State → Prop} {b Ls : Nat} {xs : Nat → Int32} {D : va_G} {cy cl : ClassId} {h h' o i N L : Nat} {a a' : Nat → Nat} {A : Nat → Nat → Int32} {th : Int32} {O : Nat → Int64} {H : Heap} {locs : List Loc} {cells slots : Nat} {ls : Array Slot} (C0 : lw_At p s m meth c b Ls xs) (hL9 : Ls ≤ 2048) (hl0 : l.stackTraces = false) (hT : kr_T s) (hw : kr_wf N L A) (hwe : kr_we N A) (hK : va_K D vwCl [(cy, .int), (cl, .long)] s) (hP : va_P D vwCl (kr_WW cy cl h a h' a' o N L A th N L A O) H) (hD : va_D (kr_new s) (kr_WW cy cl h a h' a' o N L A th N L A O)) (hS : va_S (kr_new s) s.heap H locs) (hi : i + 4 ≤ Ls) (hl : lv_has ls 9 [(0, .ref b), (1, .ref h), (2, .ref h'), (3, .ref o), (4, .int (nI i))]) (hf : cells + 16 ≤ 601024 ∧ slots + 112 ≤ 7293034) (kT : ∀ (N L : Nat) (A : Nat → Nat → Int32) (th : Int32) (O : Nat → Int64) (H : Heap) (locs : List Loc) (ls : Array Slot), kr_wf N L A → kr_we N A → va_P D vwCl (kr_WW cy cl h a h' a' o N L A th N L A O) H → va_D (kr_new s) (kr_WW cy cl h a h' a' o N L A th N L A O) → va_S (kr_new s) s.heap H locs → lv_has ls 9 [(0, .ref b), (1, .ref h), (2, .ref h'), (3, .ref o), (4, .int (nI i))] → W p l e room_1 s m #[Value.ref b] below meth c H locs (cells + 16) (slots + 112) Q (F0 m 1889 ls [])) : W p l e room_1 s m #[Value.ref b] below meth c H locs cells slots Q (F0 m 697 ls []) := by
  obtain ⟨hx, hb, hr, hml, hown, hts0, hX, hbl, hlocks, hgv⟩ := id C0
  have hts : ∀ w ∈ kr_all, w.before #[Value.ref b] s = true := fun w hw => hts0 w (List.mem_filter.mp hw).1
  have hown : s.vm.findClass RL = some m.cls := hown
  have hb : c.code = cL_law := hb
  have hbA : ¬ (kr_new s) b := Nat.not_le.mpr hbl
  obtain ⟨x, ex1⟩ : ∃ v, v = xs (nI (i + 1)).toNatClampNeg := ⟨_, rfl⟩
  refine lv_aload_n hx hb dL_law_697 rfl (lv_at hl 1 rfl) ?_
  refine lv_aload_n hx hb dL_law_698 rfl (lv_at hl 0 rfl) ?_
  refine lv_iload hx hb dL_law_699 (lv_at hl 4 rfl) ?_
  refine lv_iconst (v := 1) hx hb dL_law_701 (by decide) ?_
  refine kr_iaddN hx hb i 1 dL_law_702 ?_
  refine va_sld hx hb hX hbl hbA hS (vp_in_nI (by omega) (by omega)) dL_law_703 ?_
  rw [← ex1]
  refine lv_aload_n hx hb dL_law_704 rfl (lv_at hl 3 rfl) ?_
  refine kr_lawH (n := 3) (As := [.ref h, .int x, .ref o]) (rest := []) ⟨hx, hb, hml, hown, hts⟩ (h_L_kindOf l hl0 D cy cl h a o N L A O H.size x hw) kgh_yL_kindOf ⟨rfl, rfl⟩ (by decide +kernel) ⟨Nat.le_of_ble_eq_true rfl, Nat.le_of_ble_eq_true rfl⟩ hP hK hD hS hT rfl hl.1 rfl (Nat.le_of_ble_eq_true rfl) dL_law_705 ⟨show cells + 1 ≤ 601024 by omega, show slots + 6 ≤ 7293034 by omega⟩ (fun r9 O2 H locs e9 hP hD hS => ?_)
  obtain ⟨e9, hO⟩ := e9
  refine lv_istore (lv' := [(5, .int r9), (0, .ref b), (1, .ref h), (2, .ref h'), (3, .ref o), (4, .int (nI i))]) hx hb dL_law_708 hl (by decide) rfl (fun ls hl => ?_)
  refine lv_aload_n hx hb dL_law_710 rfl (lv_at hl 3 rfl) ?_
  refine lv_aload_n hx hb dL_law_711 rfl (lv_at hl 1 rfl) ?_
  refine lv_iload hx hb dL_law_712 (lv_at hl 5 rfl) ?_
  refine lv_iconst (v := 1) hx hb dL_law_714 (by decide) ?_
  refine kr_iaddN hx hb i 1 dL_law_715 ?_
  refine va_sld hx hb hX hbl hbA hS (vp_in_nI (by omega) (by omega)) dL_law_716 ?_
  rw [← ex1]
  refine kr_lawX (n := 1) (As := [.int x]) (rest := []) ⟨hx, hb, hml, hown, hts⟩ (c_X1_kindOf l D cy h' a' th N L A H.size x hw) kg_RL_134 ⟨rfl, rfl⟩ (by decide +kernel) ⟨Nat.le_of_ble_eq_true rfl, Nat.le_of_ble_eq_true rfl⟩ hP hK hD hS rfl hl.1 rfl (Nat.le_of_ble_eq_true rfl) dL_law_717 ⟨show cells + 1 ≤ 601024 by omega, show slots + 6 ≤ 7293034 by omega⟩ (fun r8 H locs e8 hP hD hS => ?_)
  refine lv_istore (lv' := [(6, .int r8), (5, .int r9), (0, .ref b), (1, .ref h), (2, .ref h'), (3, .ref o), (4, .int (nI i))]) hx hb dL_law_720 hl (by decide) rfl (fun ls hl => ?_)
  refine lv_aload_n hx hb dL_law_722 rfl (lv_at hl 4 rfl) ?_
  refine kr_vI (n := 0) (As := []) (rest := []) ⟨hx, hb, hml, hown, hts⟩ (c_X1_thrown l D cy h' a' _ _ _ _) kg_RL_104 ⟨rfl, rfl⟩ (by decide +kernel) ⟨Nat.le_of_ble_eq_true rfl, Nat.le_of_ble_eq_true rfl⟩ (kr_pw1 hP hK) rfl hl.1 rfl (Nat.le_of_ble_eq_true rfl) dL_law_723 ⟨show cells + 1 ≤ 601024 by omega, show slots + 6 ≤ 7293034 by omega⟩ (fun r7 e7 => ?_)
  refine lv_iload hx hb dL_law_726 (lv_at hl 1 rfl) ?_
  refine lv_icmp_eq (tgt := 733) hx hb dL_law_728 (by decide) (fun c728 => ?_) (fun c728 => absurd (e7.trans e9.symm) c728)
  refine lv_iload hx hb dL_law_733 (lv_at hl 1 rfl) ?_
  refine lv_if_ne (tgt := 750) hx hb dL_law_735 (by decide) (fun c735 => ?_) (fun c735 => ?_)
  · refine lv_goto (tgt := 1889) hx hb dL_law_750 (by decide) ?_
    refine W.widen (k := cells + 16) (n := slots + 112) (by omega) (by omega) ?_
    exact kT _ _ _ _ _ _ _ ls hw hwe hP hD hS (lv_sub hl [2, 3, 4, 5, 6] rfl)
  · have hc : kr_cd (kr_i N x) True True = 0 := e9.symm.trans c735
    have hO2 : O2 (0 : Int32).toNatClampNeg = Int32.toInt64 r8 := (hO hc).trans (congrArg Int32.toInt64 (e8 hc).symm)
    refine lv_aload_n hx hb dL_law_738 rfl (lv_at hl 5 rfl) ?_
    refine lv_iconst (v := 0) hx hb dL_law_739 (by decide) ?_
    refine va_lald hx hb hK hP 18 1 rfl rfl (show ¬ ((0 : Int32) < 0 ∨ 1 ≤ (0 : Int32).toNatClampNeg) by decide) dL_law_740 ?_
    rw [hO2]
    refine lv_iload hx hb dL_law_741 (lv_at hl 0 rfl) ?_
    refine lv_i2l (v := r8.toInt64) hx hb dL_law_743 rfl ?_
    refine W.lcmp hx hb dL_law_744 ?_
    refine lv_if_eq (tgt := 750) hx hb dL_law_745 (by decide) (fun c745 => ?_) (fun c745 => absurd (kr_lg _) c745)
    refine lv_goto (tgt := 1889) hx hb dL_law_750 (by decide) ?_
    refine W.widen (k := cells + 16) (n := slots + 112) (by omega) (by omega) ?_
    exact kT _ _ _ _ _ _ _ ls hw hwe hP hD hS (lv_sub hl [2, 3, 4, 5, 6] rfl)
theorem kgh_yL_efficiencyOf : GoodIn kr_all (va_wsS RL 135 yL_efficiencyOf (Cond.codeWith yL_efficiencyOf cL_efficiencyOf 4 (some .int) [(0, 9, 12, 13)] :: kr_all)) := kr_gW kq_445 kq_446 kq_47 kq_447
theorem kg_RL_137 : GoodIn kr_all (wsV RL 137 RX1 yX1_efficiencyOf (Cond.code yX1_efficiencyOf cX1_efficiencyOf 2 (some .int) :: kr_all)) := kr_gV kq_674 kq_675 kq_676 kq_49 kq_677
set_option maxHeartbeats 4000000 in
set_option maxRecDepth 100000 in
theorem law_c_efficiencyOf {p : Program} {l : Launch} {e : Env} {s : State} {m : MethodId} {below : List Frame} {meth : Method} {c : Code} {Q : State → Prop} {b Ls : Nat} {xs : Nat → Int32} {D : va_G} {cy cl : ClassId} {h h' o i N L : Nat} {a a' : Nat → Nat} {A : Nat → Nat → Int32} {th : Int32} {O : Nat → Int64} {H : Heap} {locs : List Loc} {cells slots : Nat} {ls : Array Slot} (C0 : lw_At p s m meth c b Ls xs) (hL9 : Ls ≤ 2048) (hl0 : l.stackTraces = false) (hT : kr_T s) (hw : kr_wf N L A) (hwe : kr_we N A) (hK : va_K D vwCl [(cy, .int), (cl, .long)] s) (hP : va_P D vwCl (kr_WW cy cl h a h' a' o N L A th N L A O) H) (hD : va_D (kr_new s) (kr_WW cy cl h a h' a' o N L A th N L A O)) (hS : va_S (kr_new s) s.heap H locs) (hi : i + 4 ≤ Ls) (hl : lv_has ls 9 [(0, .ref b), (1, .ref h), (2, .ref h'), (3, .ref o), (4, .int (nI i))]) (hf : cells + 16 ≤ 601024 ∧ slots + 112 ≤ 7293034) (kT : ∀ (N L : Nat) (A : Nat → Nat → Int32) (th : Int32) (O : Nat → Int64) (H : Heap) (locs : List Loc) (ls : Array Slot), kr_wf N L A → kr_we N A → va_P D vwCl (kr_WW cy cl h a h' a' o N L A th N L A O) H → va_D (kr_new s) (kr_WW cy cl h a h' a' o N L A th N L A O) → va_S (kr_new s) s.heap H locs → lv_has ls 9 [(0, .ref b), (1, .ref h), (2, .ref h'), (3, .ref o), (4, .int (nI i))] → W p l e room_1 s m #[Value.ref b] below meth c H locs (cells + 16) (slots + 112) Q (F0 m 1889 ls [])) : W p l e room_1 s m #[Value.ref b] below meth c H locs cells slots Q (F0 m 753 ls []) := by
  obtain ⟨hx, hb, hr, hml, hown, hts0, hX, hbl, hlocks, hgv⟩ := id C0
  have hts : ∀ w ∈ kr_all, w.before #[Value.ref b] s = true := fun w hw => hts0 w (List.mem_filter.mp hw).1
  have hown : s.vm.findClass RL = some m.cls := hown
  have hb : c.code = cL_law := hb
  have hbA : ¬ (kr_new s) b := Nat.not_le.mpr hbl
  obtain ⟨x, ex1⟩ : ∃ v, v = xs (nI (i + 1)).toNatClampNeg := ⟨_, rfl⟩
  refine lv_aload_n hx hb dL_law_753 rfl (lv_at hl 1 rfl) ?_
  refine lv_aload_n hx hb dL_law_754 rfl (lv_at hl 0 rfl) ?_
  refine lv_iload hx hb dL_law_755 (lv_at hl 4 rfl) ?_
  refine lv_iconst (v := 1) hx hb dL_law_757 (by decide) ?_
  refine kr_iaddN hx hb i 1 dL_law_758 ?_
  refine va_sld hx hb hX hbl hbA hS (vp_in_nI (by omega) (by omega)) dL_law_759 ?_
  rw [← ex1]
  refine lv_aload_n hx hb dL_law_760 rfl (lv_at hl 3 rfl) ?_
  refine kr_lawH (n := 3) (As := [.ref h, .int x, .ref o]) (rest := []) ⟨hx, hb, hml, hown, hts⟩ (h_L_efficiencyOf l hl0 D cy cl h a o N L A O H.size x hw) kgh_yL_efficiencyOf ⟨rfl, rfl⟩ (by decide +kernel) ⟨Nat.le_of_ble_eq_true rfl, Nat.le_of_ble_eq_true rfl⟩ hP hK hD hS hT rfl hl.1 rfl (Nat.le_of_ble_eq_true rfl) dL_law_761 ⟨show cells + 1 ≤ 601024 by omega, show slots + 6 ≤ 7293034 by omega⟩ (fun r9 O2 H locs e9 hP hD hS => ?_)
  obtain ⟨e9, hO⟩ := e9
  refine lv_istore (lv' := [(5, .int r9), (0, .ref b), (1, .ref h), (2, .ref h'), (3, .ref o), (4, .int (nI i))]) hx hb dL_law_764 hl (by decide) rfl (fun ls hl => ?_)
  refine lv_aload_n hx hb dL_law_766 rfl (lv_at hl 3 rfl) ?_
  refine lv_aload_n hx hb dL_law_767 rfl (lv_at hl 1 rfl) ?_
  refine lv_iload hx hb dL_law_768 (lv_at hl 5 rfl) ?_
  refine lv_iconst (v := 1) hx hb dL_law_770 (by decide) ?_
  refine kr_iaddN hx hb i 1 dL_law_771 ?_
  refine va_sld hx hb hX hbl hbA hS (vp_in_nI (by omega) (by omega)) dL_law_772 ?_
  rw [← ex1]
  refine kr_lawX (n := 1) (As := [.int x]) (rest := []) ⟨hx, hb, hml, hown, hts⟩ (c_X1_efficiencyOf l D cy h' a' th N L A H.size x hw) kg_RL_137 ⟨rfl, rfl⟩ (by decide +kernel) ⟨Nat.le_of_ble_eq_true rfl, Nat.le_of_ble_eq_true rfl⟩ hP hK hD hS rfl hl.1 rfl (Nat.le_of_ble_eq_true rfl) dL_law_773 ⟨show cells + 1 ≤ 601024 by omega, show slots + 6 ≤ 7293034 by omega⟩ (fun r8 H locs e8 hP hD hS => ?_)
  refine lv_istore (lv' := [(6, .int r8), (5, .int r9), (0, .ref b), (1, .ref h), (2, .ref h'), (3, .ref o), (4, .int (nI i))]) hx hb dL_law_776 hl (by decide) rfl (fun ls hl => ?_)
  refine lv_aload_n hx hb dL_law_778 rfl (lv_at hl 4 rfl) ?_
  refine kr_vI (n := 0) (As := []) (rest := []) ⟨hx, hb, hml, hown, hts⟩ (c_X1_thrown l D cy h' a' _ _ _ _) kg_RL_104 ⟨rfl, rfl⟩ (by decide +kernel) ⟨Nat.le_of_ble_eq_true rfl, Nat.le_of_ble_eq_true rfl⟩ (kr_pw1 hP hK) rfl hl.1 rfl (Nat.le_of_ble_eq_true rfl) dL_law_779 ⟨show cells + 1 ≤ 601024 by omega, show slots + 6 ≤ 7293034 by omega⟩ (fun r7 e7 => ?_)
  refine lv_iload hx hb dL_law_782 (lv_at hl 1 rfl) ?_
  refine lv_icmp_eq (tgt := 789) hx hb dL_law_784 (by decide) (fun c784 => ?_) (fun c784 => absurd (e7.trans e9.symm) c784)
  refine lv_iload hx hb dL_law_789 (lv_at hl 1 rfl) ?_
  refine lv_if_ne (tgt := 806) hx hb dL_law_791 (by decide) (fun c791 => ?_) (fun c791 => ?_)
  · refine lv_goto (tgt := 1889) hx hb dL_law_806 (by decide) ?_
    refine W.widen (k := cells + 16) (n := slots + 112) (by omega) (by omega) ?_
    exact kT _ _ _ _ _ _ _ ls hw hwe hP hD hS (lv_sub hl [2, 3, 4, 5, 6] rfl)
  · have hc : kr_cd (kr_i N x) True True = 0 := e9.symm.trans c791
    have hO2 : O2 (0 : Int32).toNatClampNeg = Int32.toInt64 r8 := (hO hc).trans (congrArg Int32.toInt64 (e8 hc).symm)
    refine lv_aload_n hx hb dL_law_794 rfl (lv_at hl 5 rfl) ?_
    refine lv_iconst (v := 0) hx hb dL_law_795 (by decide) ?_
    refine va_lald hx hb hK hP 18 1 rfl rfl (show ¬ ((0 : Int32) < 0 ∨ 1 ≤ (0 : Int32).toNatClampNeg) by decide) dL_law_796 ?_
    rw [hO2]
    refine lv_iload hx hb dL_law_797 (lv_at hl 0 rfl) ?_
    refine lv_i2l (v := r8.toInt64) hx hb dL_law_799 rfl ?_
    refine W.lcmp hx hb dL_law_800 ?_
    refine lv_if_eq (tgt := 806) hx hb dL_law_801 (by decide) (fun c801 => ?_) (fun c801 => absurd (kr_lg _) c801)
    refine lv_goto (tgt := 1889) hx hb dL_law_806 (by decide) ?_
    refine W.widen (k := cells + 16) (n := slots + 112) (by omega) (by omega) ?_
    exact kT _ _ _ _ _ _ _ ls hw hwe hP hD hS (lv_sub hl [2, 3, 4, 5, 6] rfl)
theorem kgh_yL_crossingsOf : GoodIn kr_all (va_wsS RL 138 yL_crossingsOf (Cond.codeWith yL_crossingsOf cL_crossingsOf 4 (some .int) [(0, 9, 12, 13)] :: kr_all)) := kr_gW kq_449 kq_450 kq_47 kq_451
theorem kg_RL_140 : GoodIn kr_all (wsV RL 140 RX1 yX1_crossingsOf (Cond.code yX1_crossingsOf cX1_crossingsOf 2 (some .int) :: kr_all)) := kr_gV kq_678 kq_679 kq_680 kq_49 kq_681
set_option maxHeartbeats 4000000 in
set_option maxRecDepth 100000 in
theorem law_c_crossingsOf {p : Program} {l : Launch} {e : Env} {s : State} {m : MethodId} {below : List Frame} {meth : Method} {c : Code} {Q : State → Prop} {b Ls : Nat} {xs : Nat → Int32} {D : va_G} {cy cl : ClassId} {h h' o i N L : Nat} {a a' : Nat → Nat} {A : Nat → Nat → Int32} {th : Int32} {O : Nat → Int64} {H : Heap} {locs : List Loc} {cells slots : Nat} {ls : Array Slot} (C0 : lw_At p s m meth c b Ls xs) (hL9 : Ls ≤ 2048) (hl0 : l.stackTraces = false) (hT : kr_T s) (hw : kr_wf N L A) (hwe : kr_we N A) (hK : va_K D vwCl [(cy, .int), (cl, .long)] s) (hP : va_P D vwCl (kr_WW cy cl h a h' a' o N L A th N L A O) H) (hD : va_D (kr_new s) (kr_WW cy cl h a h' a' o N L A th N L A O)) (hS : va_S (kr_new s) s.heap H locs) (hi : i + 4 ≤ Ls) (hl : lv_has ls 9 [(0, .ref b), (1, .ref h), (2, .ref h'), (3, .ref o), (4, .int (nI i))]) (hf : cells + 16 ≤ 601024 ∧ slots + 112 ≤ 7293034) (kT : ∀ (N L : Nat) (A : Nat → Nat → Int32) (th : Int32) (O : Nat → Int64) (H : Heap) (locs : List Loc) (ls : Array Slot), kr_wf N L A → kr_we N A → va_P D vwCl (kr_WW cy cl h a h' a' o N L A th N L A O) H → va_D (kr_new s) (kr_WW cy cl h a h' a' o N L A th N L A O) → va_S (kr_new s) s.heap H locs → lv_has ls 9 [(0, .ref b), (1, .ref h), (2, .ref h'), (3, .ref o), (4, .int (nI i))] → W p l e room_1 s m #[Value.ref b] below meth c H locs (cells + 16) (slots + 112) Q (F0 m 1889 ls [])) : W p l e room_1 s m #[Value.ref b] below meth c H locs cells slots Q (F0 m 809 ls []) := by
  obtain ⟨hx, hb, hr, hml, hown, hts0, hX, hbl, hlocks, hgv⟩ := id C0
  have hts : ∀ w ∈ kr_all, w.before #[Value.ref b] s = true := fun w hw => hts0 w (List.mem_filter.mp hw).1
  have hown : s.vm.findClass RL = some m.cls := hown
  have hb : c.code = cL_law := hb
  have hbA : ¬ (kr_new s) b := Nat.not_le.mpr hbl
  obtain ⟨x, ex1⟩ : ∃ v, v = xs (nI (i + 1)).toNatClampNeg := ⟨_, rfl⟩
  refine lv_aload_n hx hb dL_law_809 rfl (lv_at hl 1 rfl) ?_
  refine lv_aload_n hx hb dL_law_810 rfl (lv_at hl 0 rfl) ?_
  refine lv_iload hx hb dL_law_811 (lv_at hl 4 rfl) ?_
  refine lv_iconst (v := 1) hx hb dL_law_813 (by decide) ?_
  refine kr_iaddN hx hb i 1 dL_law_814 ?_
  refine va_sld hx hb hX hbl hbA hS (vp_in_nI (by omega) (by omega)) dL_law_815 ?_
  rw [← ex1]
  refine lv_aload_n hx hb dL_law_816 rfl (lv_at hl 3 rfl) ?_
  refine kr_lawH (n := 3) (As := [.ref h, .int x, .ref o]) (rest := []) ⟨hx, hb, hml, hown, hts⟩ (h_L_crossingsOf l hl0 D cy cl h a o N L A O H.size x hw) kgh_yL_crossingsOf ⟨rfl, rfl⟩ (by decide +kernel) ⟨Nat.le_of_ble_eq_true rfl, Nat.le_of_ble_eq_true rfl⟩ hP hK hD hS hT rfl hl.1 rfl (Nat.le_of_ble_eq_true rfl) dL_law_817 ⟨show cells + 1 ≤ 601024 by omega, show slots + 6 ≤ 7293034 by omega⟩ (fun r9 O2 H locs e9 hP hD hS => ?_)
  obtain ⟨e9, hO⟩ := e9
  refine lv_istore (lv' := [(5, .int r9), (0, .ref b), (1, .ref h), (2, .ref h'), (3, .ref o), (4, .int (nI i))]) hx hb dL_law_820 hl (by decide) rfl (fun ls hl => ?_)
  refine lv_aload_n hx hb dL_law_822 rfl (lv_at hl 3 rfl) ?_
  refine lv_aload_n hx hb dL_law_823 rfl (lv_at hl 1 rfl) ?_
  refine lv_iload hx hb dL_law_824 (lv_at hl 5 rfl) ?_
  refine lv_iconst (v := 1) hx hb dL_law_826 (by decide) ?_
  refine kr_iaddN hx hb i 1 dL_law_827 ?_
  refine va_sld hx hb hX hbl hbA hS (vp_in_nI (by omega) (by omega)) dL_law_828 ?_
  rw [← ex1]
  refine kr_lawX (n := 1) (As := [.int x]) (rest := []) ⟨hx, hb, hml, hown, hts⟩ (c_X1_crossingsOf l D cy h' a' th N L A H.size x hw) kg_RL_140 ⟨rfl, rfl⟩ (by decide +kernel) ⟨Nat.le_of_ble_eq_true rfl, Nat.le_of_ble_eq_true rfl⟩ hP hK hD hS rfl hl.1 rfl (Nat.le_of_ble_eq_true rfl) dL_law_829 ⟨show cells + 1 ≤ 601024 by omega, show slots + 6 ≤ 7293034 by omega⟩ (fun r8 H locs e8 hP hD hS => ?_)
  refine lv_istore (lv' := [(6, .int r8), (5, .int r9), (0, .ref b), (1, .ref h), (2, .ref h'), (3, .ref o), (4, .int (nI i))]) hx hb dL_law_832 hl (by decide) rfl (fun ls hl => ?_)
  refine lv_aload_n hx hb dL_law_834 rfl (lv_at hl 4 rfl) ?_
  refine kr_vI (n := 0) (As := []) (rest := []) ⟨hx, hb, hml, hown, hts⟩ (c_X1_thrown l D cy h' a' _ _ _ _) kg_RL_104 ⟨rfl, rfl⟩ (by decide +kernel) ⟨Nat.le_of_ble_eq_true rfl, Nat.le_of_ble_eq_true rfl⟩ (kr_pw1 hP hK) rfl hl.1 rfl (Nat.le_of_ble_eq_true rfl) dL_law_835 ⟨show cells + 1 ≤ 601024 by omega, show slots + 6 ≤ 7293034 by omega⟩ (fun r7 e7 => ?_)
  refine lv_iload hx hb dL_law_838 (lv_at hl 1 rfl) ?_
  refine lv_icmp_eq (tgt := 845) hx hb dL_law_840 (by decide) (fun c840 => ?_) (fun c840 => absurd (e7.trans e9.symm) c840)
  refine lv_iload hx hb dL_law_845 (lv_at hl 1 rfl) ?_
  refine lv_if_ne (tgt := 862) hx hb dL_law_847 (by decide) (fun c847 => ?_) (fun c847 => ?_)
  · refine lv_goto (tgt := 1889) hx hb dL_law_862 (by decide) ?_
    refine W.widen (k := cells + 16) (n := slots + 112) (by omega) (by omega) ?_
    exact kT _ _ _ _ _ _ _ ls hw hwe hP hD hS (lv_sub hl [2, 3, 4, 5, 6] rfl)
  · have hc : kr_cd (kr_i N x) True True = 0 := e9.symm.trans c847
    have hO2 : O2 (0 : Int32).toNatClampNeg = Int32.toInt64 r8 := (hO hc).trans (congrArg Int32.toInt64 (e8 hc).symm)
    refine lv_aload_n hx hb dL_law_850 rfl (lv_at hl 5 rfl) ?_
    refine lv_iconst (v := 0) hx hb dL_law_851 (by decide) ?_
    refine va_lald hx hb hK hP 18 1 rfl rfl (show ¬ ((0 : Int32) < 0 ∨ 1 ≤ (0 : Int32).toNatClampNeg) by decide) dL_law_852 ?_
    rw [hO2]
    refine lv_iload hx hb dL_law_853 (lv_at hl 0 rfl) ?_
    refine lv_i2l (v := r8.toInt64) hx hb dL_law_855 rfl ?_
    refine W.lcmp hx hb dL_law_856 ?_
    refine lv_if_eq (tgt := 862) hx hb dL_law_857 (by decide) (fun c857 => ?_) (fun c857 => absurd (kr_lg _) c857)
    refine lv_goto (tgt := 1889) hx hb dL_law_862 (by decide) ?_
    refine W.widen (k := cells + 16) (n := slots + 112) (by omega) (by omega) ?_
    exact kT _ _ _ _ _ _ _ ls hw hwe hP hD hS (lv_sub hl [2, 3, 4, 5, 6] rfl)
theorem kgh_yL_spillsAt : GoodIn kr_all (va_wsS RL 141 yL_spillsAt (Cond.codeWith yL_spillsAt cL_spillsAt 4 (some .int) [(0, 9, 12, 13)] :: kr_all)) := kr_gW kq_453 kq_454 kq_47 kq_455
theorem kg_RL_143 : GoodIn kr_all (wsV RL 143 RX1 yX1_spillsAt (Cond.code yX1_spillsAt cX1_spillsAt 2 (some .int) :: kr_all)) := kr_gV kq_682 kq_683 kq_684 kq_49 kq_685
set_option maxHeartbeats 4000000 in
set_option maxRecDepth 100000 in
theorem law_c_spillsAt {p : Program} {l : Launch} {e : Env} {s : State} {m : MethodId} {below : List Frame} {meth : Method} {c : Code} {Q : State → Prop} {b Ls : Nat} {xs : Nat → Int32} {D : va_G} {cy cl : ClassId} {h h' o i N L : Nat} {a a' : Nat → Nat} {A : Nat → Nat → Int32} {th : Int32} {O : Nat → Int64} {H : Heap} {locs : List Loc} {cells slots : Nat} {ls : Array Slot} (C0 : lw_At p s m meth c b Ls xs) (hL9 : Ls ≤ 2048) (hl0 : l.stackTraces = false) (hT : kr_T s) (hw : kr_wf N L A) (hwe : kr_we N A) (hK : va_K D vwCl [(cy, .int), (cl, .long)] s) (hP : va_P D vwCl (kr_WW cy cl h a h' a' o N L A th N L A O) H) (hD : va_D (kr_new s) (kr_WW cy cl h a h' a' o N L A th N L A O)) (hS : va_S (kr_new s) s.heap H locs) (hi : i + 4 ≤ Ls) (hl : lv_has ls 9 [(0, .ref b), (1, .ref h), (2, .ref h'), (3, .ref o), (4, .int (nI i))]) (hf : cells + 16 ≤ 601024 ∧ slots + 112 ≤ 7293034) (kT : ∀ (N L : Nat) (A : Nat → Nat → Int32) (th : Int32) (O : Nat → Int64) (H : Heap) (locs : List Loc) (ls : Array Slot), kr_wf N L A → kr_we N A → va_P D vwCl (kr_WW cy cl h a h' a' o N L A th N L A O) H → va_D (kr_new s) (kr_WW cy cl h a h' a' o N L A th N L A O) → va_S (kr_new s) s.heap H locs → lv_has ls 9 [(0, .ref b), (1, .ref h), (2, .ref h'), (3, .ref o), (4, .int (nI i))] → W p l e room_1 s m #[Value.ref b] below meth c H locs (cells + 16) (slots + 112) Q (F0 m 1889 ls [])) : W p l e room_1 s m #[Value.ref b] below meth c H locs cells slots Q (F0 m 865 ls []) := by
  obtain ⟨hx, hb, hr, hml, hown, hts0, hX, hbl, hlocks, hgv⟩ := id C0
  have hts : ∀ w ∈ kr_all, w.before #[Value.ref b] s = true := fun w hw => hts0 w (List.mem_filter.mp hw).1
  have hown : s.vm.findClass RL = some m.cls := hown
  have hb : c.code = cL_law := hb
  have hbA : ¬ (kr_new s) b := Nat.not_le.mpr hbl
  obtain ⟨x, ex1⟩ : ∃ v, v = xs (nI (i + 1)).toNatClampNeg := ⟨_, rfl⟩
  refine lv_aload_n hx hb dL_law_865 rfl (lv_at hl 1 rfl) ?_
  refine lv_aload_n hx hb dL_law_866 rfl (lv_at hl 0 rfl) ?_
  refine lv_iload hx hb dL_law_867 (lv_at hl 4 rfl) ?_
  refine lv_iconst (v := 1) hx hb dL_law_869 (by decide) ?_
  refine kr_iaddN hx hb i 1 dL_law_870 ?_
  refine va_sld hx hb hX hbl hbA hS (vp_in_nI (by omega) (by omega)) dL_law_871 ?_
  rw [← ex1]
  refine lv_aload_n hx hb dL_law_872 rfl (lv_at hl 3 rfl) ?_
  refine kr_lawH (n := 3) (As := [.ref h, .int x, .ref o]) (rest := []) ⟨hx, hb, hml, hown, hts⟩ (h_L_spillsAt l hl0 D cy cl h a o N L A O H.size x hw) kgh_yL_spillsAt ⟨rfl, rfl⟩ (by decide +kernel) ⟨Nat.le_of_ble_eq_true rfl, Nat.le_of_ble_eq_true rfl⟩ hP hK hD hS hT rfl hl.1 rfl (Nat.le_of_ble_eq_true rfl) dL_law_873 ⟨show cells + 1 ≤ 601024 by omega, show slots + 6 ≤ 7293034 by omega⟩ (fun r9 O2 H locs e9 hP hD hS => ?_)
  obtain ⟨e9, hO⟩ := e9
  refine lv_istore (lv' := [(5, .int r9), (0, .ref b), (1, .ref h), (2, .ref h'), (3, .ref o), (4, .int (nI i))]) hx hb dL_law_876 hl (by decide) rfl (fun ls hl => ?_)
  refine lv_aload_n hx hb dL_law_878 rfl (lv_at hl 3 rfl) ?_
  refine lv_aload_n hx hb dL_law_879 rfl (lv_at hl 1 rfl) ?_
  refine lv_iload hx hb dL_law_880 (lv_at hl 5 rfl) ?_
  refine lv_iconst (v := 1) hx hb dL_law_882 (by decide) ?_
  refine kr_iaddN hx hb i 1 dL_law_883 ?_
  refine va_sld hx hb hX hbl hbA hS (vp_in_nI (by omega) (by omega)) dL_law_884 ?_
  rw [← ex1]
  refine kr_lawX (n := 1) (As := [.int x]) (rest := []) ⟨hx, hb, hml, hown, hts⟩ (c_X1_spillsAt l D cy h' a' th N L A H.size x hw) kg_RL_143 ⟨rfl, rfl⟩ (by decide +kernel) ⟨Nat.le_of_ble_eq_true rfl, Nat.le_of_ble_eq_true rfl⟩ hP hK hD hS rfl hl.1 rfl (Nat.le_of_ble_eq_true rfl) dL_law_885 ⟨show cells + 1 ≤ 601024 by omega, show slots + 6 ≤ 7293034 by omega⟩ (fun r8 H locs e8 hP hD hS => ?_)
  refine lv_istore (lv' := [(6, .int r8), (5, .int r9), (0, .ref b), (1, .ref h), (2, .ref h'), (3, .ref o), (4, .int (nI i))]) hx hb dL_law_888 hl (by decide) rfl (fun ls hl => ?_)
  refine lv_aload_n hx hb dL_law_890 rfl (lv_at hl 4 rfl) ?_
  refine kr_vI (n := 0) (As := []) (rest := []) ⟨hx, hb, hml, hown, hts⟩ (c_X1_thrown l D cy h' a' _ _ _ _) kg_RL_104 ⟨rfl, rfl⟩ (by decide +kernel) ⟨Nat.le_of_ble_eq_true rfl, Nat.le_of_ble_eq_true rfl⟩ (kr_pw1 hP hK) rfl hl.1 rfl (Nat.le_of_ble_eq_true rfl) dL_law_891 ⟨show cells + 1 ≤ 601024 by omega, show slots + 6 ≤ 7293034 by omega⟩ (fun r7 e7 => ?_)
  refine lv_iload hx hb dL_law_894 (lv_at hl 1 rfl) ?_
  refine lv_icmp_eq (tgt := 901) hx hb dL_law_896 (by decide) (fun c896 => ?_) (fun c896 => absurd (e7.trans e9.symm) c896)
  refine lv_iload hx hb dL_law_901 (lv_at hl 1 rfl) ?_
  refine lv_if_ne (tgt := 918) hx hb dL_law_903 (by decide) (fun c903 => ?_) (fun c903 => ?_)
  · refine lv_goto (tgt := 1889) hx hb dL_law_918 (by decide) ?_
    refine W.widen (k := cells + 16) (n := slots + 112) (by omega) (by omega) ?_
    exact kT _ _ _ _ _ _ _ ls hw hwe hP hD hS (lv_sub hl [2, 3, 4, 5, 6] rfl)
  · have hc : kr_cd (kr_i N x) True True = 0 := e9.symm.trans c903
    have hO2 : O2 (0 : Int32).toNatClampNeg = Int32.toInt64 r8 := (hO hc).trans (congrArg Int32.toInt64 (e8 hc).symm)
    refine lv_aload_n hx hb dL_law_906 rfl (lv_at hl 5 rfl) ?_
    refine lv_iconst (v := 0) hx hb dL_law_907 (by decide) ?_
    refine va_lald hx hb hK hP 18 1 rfl rfl (show ¬ ((0 : Int32) < 0 ∨ 1 ≤ (0 : Int32).toNatClampNeg) by decide) dL_law_908 ?_
    rw [hO2]
    refine lv_iload hx hb dL_law_909 (lv_at hl 0 rfl) ?_
    refine lv_i2l (v := r8.toInt64) hx hb dL_law_911 rfl ?_
    refine W.lcmp hx hb dL_law_912 ?_
    refine lv_if_eq (tgt := 918) hx hb dL_law_913 (by decide) (fun c913 => ?_) (fun c913 => absurd (kr_lg _) c913)
    refine lv_goto (tgt := 1889) hx hb dL_law_918 (by decide) ?_
    refine W.widen (k := cells + 16) (n := slots + 112) (by omega) (by omega) ?_
    exact kT _ _ _ _ _ _ _ ls hw hwe hP hD hS (lv_sub hl [2, 3, 4, 5, 6] rfl)
theorem kgh_yL_spillsInto : GoodIn kr_all (va_wsS RL 144 yL_spillsInto (Cond.codeWith yL_spillsInto cL_spillsInto 4 (some .int) [(0, 9, 12, 13)] :: kr_all)) := kr_gW kq_457 kq_458 kq_47 kq_459
theorem kg_RL_146 : GoodIn kr_all (wsV RL 146 RX1 yX1_spillsInto (Cond.code yX1_spillsInto cX1_spillsInto 2 (some .int) :: kr_all)) := kr_gV kq_686 kq_687 kq_688 kq_49 kq_689
set_option maxHeartbeats 4000000 in
set_option maxRecDepth 100000 in
theorem law_c_spillsInto {p : Program} {l : Launch} {e : Env} {s : State} {m : MethodId} {below : List Frame} {meth : Method} {c : Code} {Q : State → Prop} {b Ls : Nat} {xs : Nat → Int32} {D : va_G} {cy cl : ClassId} {h h' o i N L : Nat} {a a' : Nat → Nat} {A : Nat → Nat → Int32} {th : Int32} {O : Nat → Int64} {H : Heap} {locs : List Loc} {cells slots : Nat} {ls : Array Slot} (C0 : lw_At p s m meth c b Ls xs) (hL9 : Ls ≤ 2048) (hl0 : l.stackTraces = false) (hT : kr_T s) (hw : kr_wf N L A) (hwe : kr_we N A) (hK : va_K D vwCl [(cy, .int), (cl, .long)] s) (hP : va_P D vwCl (kr_WW cy cl h a h' a' o N L A th N L A O) H) (hD : va_D (kr_new s) (kr_WW cy cl h a h' a' o N L A th N L A O)) (hS : va_S (kr_new s) s.heap H locs) (hi : i + 4 ≤ Ls) (hl : lv_has ls 9 [(0, .ref b), (1, .ref h), (2, .ref h'), (3, .ref o), (4, .int (nI i))]) (hf : cells + 16 ≤ 601024 ∧ slots + 112 ≤ 7293034) (kT : ∀ (N L : Nat) (A : Nat → Nat → Int32) (th : Int32) (O : Nat → Int64) (H : Heap) (locs : List Loc) (ls : Array Slot), kr_wf N L A → kr_we N A → va_P D vwCl (kr_WW cy cl h a h' a' o N L A th N L A O) H → va_D (kr_new s) (kr_WW cy cl h a h' a' o N L A th N L A O) → va_S (kr_new s) s.heap H locs → lv_has ls 9 [(0, .ref b), (1, .ref h), (2, .ref h'), (3, .ref o), (4, .int (nI i))] → W p l e room_1 s m #[Value.ref b] below meth c H locs (cells + 16) (slots + 112) Q (F0 m 1889 ls [])) : W p l e room_1 s m #[Value.ref b] below meth c H locs cells slots Q (F0 m 921 ls []) := by
  obtain ⟨hx, hb, hr, hml, hown, hts0, hX, hbl, hlocks, hgv⟩ := id C0
  have hts : ∀ w ∈ kr_all, w.before #[Value.ref b] s = true := fun w hw => hts0 w (List.mem_filter.mp hw).1
  have hown : s.vm.findClass RL = some m.cls := hown
  have hb : c.code = cL_law := hb
  have hbA : ¬ (kr_new s) b := Nat.not_le.mpr hbl
  obtain ⟨x, ex1⟩ : ∃ v, v = xs (nI (i + 1)).toNatClampNeg := ⟨_, rfl⟩
  refine lv_aload_n hx hb dL_law_921 rfl (lv_at hl 1 rfl) ?_
  refine lv_aload_n hx hb dL_law_922 rfl (lv_at hl 0 rfl) ?_
  refine lv_iload hx hb dL_law_923 (lv_at hl 4 rfl) ?_
  refine lv_iconst (v := 1) hx hb dL_law_925 (by decide) ?_
  refine kr_iaddN hx hb i 1 dL_law_926 ?_
  refine va_sld hx hb hX hbl hbA hS (vp_in_nI (by omega) (by omega)) dL_law_927 ?_
  rw [← ex1]
  refine lv_aload_n hx hb dL_law_928 rfl (lv_at hl 3 rfl) ?_
  refine kr_lawH (n := 3) (As := [.ref h, .int x, .ref o]) (rest := []) ⟨hx, hb, hml, hown, hts⟩ (h_L_spillsInto l hl0 D cy cl h a o N L A O H.size x hw) kgh_yL_spillsInto ⟨rfl, rfl⟩ (by decide +kernel) ⟨Nat.le_of_ble_eq_true rfl, Nat.le_of_ble_eq_true rfl⟩ hP hK hD hS hT rfl hl.1 rfl (Nat.le_of_ble_eq_true rfl) dL_law_929 ⟨show cells + 1 ≤ 601024 by omega, show slots + 6 ≤ 7293034 by omega⟩ (fun r9 O2 H locs e9 hP hD hS => ?_)
  obtain ⟨e9, hO⟩ := e9
  refine lv_istore (lv' := [(5, .int r9), (0, .ref b), (1, .ref h), (2, .ref h'), (3, .ref o), (4, .int (nI i))]) hx hb dL_law_932 hl (by decide) rfl (fun ls hl => ?_)
  refine lv_aload_n hx hb dL_law_934 rfl (lv_at hl 3 rfl) ?_
  refine lv_aload_n hx hb dL_law_935 rfl (lv_at hl 1 rfl) ?_
  refine lv_iload hx hb dL_law_936 (lv_at hl 5 rfl) ?_
  refine lv_iconst (v := 1) hx hb dL_law_938 (by decide) ?_
  refine kr_iaddN hx hb i 1 dL_law_939 ?_
  refine va_sld hx hb hX hbl hbA hS (vp_in_nI (by omega) (by omega)) dL_law_940 ?_
  rw [← ex1]
  refine kr_lawX (n := 1) (As := [.int x]) (rest := []) ⟨hx, hb, hml, hown, hts⟩ (c_X1_spillsInto l D cy h' a' th N L A H.size x hw) kg_RL_146 ⟨rfl, rfl⟩ (by decide +kernel) ⟨Nat.le_of_ble_eq_true rfl, Nat.le_of_ble_eq_true rfl⟩ hP hK hD hS rfl hl.1 rfl (Nat.le_of_ble_eq_true rfl) dL_law_941 ⟨show cells + 1 ≤ 601024 by omega, show slots + 6 ≤ 7293034 by omega⟩ (fun r8 H locs e8 hP hD hS => ?_)
  refine lv_istore (lv' := [(6, .int r8), (5, .int r9), (0, .ref b), (1, .ref h), (2, .ref h'), (3, .ref o), (4, .int (nI i))]) hx hb dL_law_944 hl (by decide) rfl (fun ls hl => ?_)
  refine lv_aload_n hx hb dL_law_946 rfl (lv_at hl 4 rfl) ?_
  refine kr_vI (n := 0) (As := []) (rest := []) ⟨hx, hb, hml, hown, hts⟩ (c_X1_thrown l D cy h' a' _ _ _ _) kg_RL_104 ⟨rfl, rfl⟩ (by decide +kernel) ⟨Nat.le_of_ble_eq_true rfl, Nat.le_of_ble_eq_true rfl⟩ (kr_pw1 hP hK) rfl hl.1 rfl (Nat.le_of_ble_eq_true rfl) dL_law_947 ⟨show cells + 1 ≤ 601024 by omega, show slots + 6 ≤ 7293034 by omega⟩ (fun r7 e7 => ?_)
  refine lv_iload hx hb dL_law_950 (lv_at hl 1 rfl) ?_
  refine lv_icmp_eq (tgt := 957) hx hb dL_law_952 (by decide) (fun c952 => ?_) (fun c952 => absurd (e7.trans e9.symm) c952)
  refine lv_iload hx hb dL_law_957 (lv_at hl 1 rfl) ?_
  refine lv_if_ne (tgt := 974) hx hb dL_law_959 (by decide) (fun c959 => ?_) (fun c959 => ?_)
  · refine lv_goto (tgt := 1889) hx hb dL_law_974 (by decide) ?_
    refine W.widen (k := cells + 16) (n := slots + 112) (by omega) (by omega) ?_
    exact kT _ _ _ _ _ _ _ ls hw hwe hP hD hS (lv_sub hl [2, 3, 4, 5, 6] rfl)
  · have hc : kr_cd (kr_i N x) True True = 0 := e9.symm.trans c959
    have hO2 : O2 (0 : Int32).toNatClampNeg = Int32.toInt64 r8 := (hO hc).trans (congrArg Int32.toInt64 (e8 hc).symm)
    refine lv_aload_n hx hb dL_law_962 rfl (lv_at hl 5 rfl) ?_
    refine lv_iconst (v := 0) hx hb dL_law_963 (by decide) ?_
    refine va_lald hx hb hK hP 18 1 rfl rfl (show ¬ ((0 : Int32) < 0 ∨ 1 ≤ (0 : Int32).toNatClampNeg) by decide) dL_law_964 ?_
    rw [hO2]
    refine lv_iload hx hb dL_law_965 (lv_at hl 0 rfl) ?_
    refine lv_i2l (v := r8.toInt64) hx hb dL_law_967 rfl ?_
    refine W.lcmp hx hb dL_law_968 ?_
    refine lv_if_eq (tgt := 974) hx hb dL_law_969 (by decide) (fun c969 => ?_) (fun c969 => absurd (kr_lg _) c969)
    refine lv_goto (tgt := 1889) hx hb dL_law_974 (by decide) ?_
    refine W.widen (k := cells + 16) (n := slots + 112) (by omega) (by omega) ?_
    exact kT _ _ _ _ _ _ _ ls hw hwe hP hD hS (lv_sub hl [2, 3, 4, 5, 6] rfl)
theorem kgh_yL_rankOf : GoodIn kr_all (va_wsS RL 147 yL_rankOf (Cond.codeWith yL_rankOf cL_rankOf 4 (some .int) [(0, 9, 12, 13)] :: kr_all)) := kr_gW kq_461 kq_462 kq_47 kq_463
theorem kg_RL_149 : GoodIn kr_all (wsV RL 149 RX1 yX1_rankOf (Cond.code yX1_rankOf cX1_rankOf 2 (some .int) :: kr_all)) := kr_gV kq_690 kq_691 kq_692 kq_49 kq_693
set_option maxHeartbeats 4000000 in
set_option maxRecDepth 100000 in
theorem law_c_rankOf {p : Program} {l : Launch} {e : Env} {s : State} {m : MethodId} {below : List Frame} {meth : Method} {c : Code} {Q : State → Prop} {b Ls : Nat} {xs : Nat → Int32} {D : va_G} {cy cl : ClassId} {h h' o i N L : Nat} {a a' : Nat → Nat} {A : Nat → Nat → Int32} {th : Int32} {O : Nat → Int64} {H : Heap} {locs : List Loc} {cells slots : Nat} {ls : Array Slot} (C0 : lw_At p s m meth c b Ls xs) (hL9 : Ls ≤ 2048) (hl0 : l.stackTraces = false) (hT : kr_T s) (hw : kr_wf N L A) (hwe : kr_we N A) (hK : va_K D vwCl [(cy, .int), (cl, .long)] s) (hP : va_P D vwCl (kr_WW cy cl h a h' a' o N L A th N L A O) H) (hD : va_D (kr_new s) (kr_WW cy cl h a h' a' o N L A th N L A O)) (hS : va_S (kr_new s) s.heap H locs) (hi : i + 4 ≤ Ls) (hl : lv_has ls 9 [(0, .ref b), (1, .ref h), (2, .ref h'), (3, .ref o), (4, .int (nI i))]) (hf : cells + 16 ≤ 601024 ∧ slots + 112 ≤ 7293034) (kT : ∀ (N L : Nat) (A : Nat → Nat → Int32) (th : Int32) (O : Nat → Int64) (H : Heap) (locs : List Loc) (ls : Array Slot), kr_wf N L A → kr_we N A → va_P D vwCl (kr_WW cy cl h a h' a' o N L A th N L A O) H → va_D (kr_new s) (kr_WW cy cl h a h' a' o N L A th N L A O) → va_S (kr_new s) s.heap H locs → lv_has ls 9 [(0, .ref b), (1, .ref h), (2, .ref h'), (3, .ref o), (4, .int (nI i))] → W p l e room_1 s m #[Value.ref b] below meth c H locs (cells + 16) (slots + 112) Q (F0 m 1889 ls [])) : W p l e room_1 s m #[Value.ref b] below meth c H locs cells slots Q (F0 m 977 ls []) := by
  obtain ⟨hx, hb, hr, hml, hown, hts0, hX, hbl, hlocks, hgv⟩ := id C0
  have hts : ∀ w ∈ kr_all, w.before #[Value.ref b] s = true := fun w hw => hts0 w (List.mem_filter.mp hw).1
  have hown : s.vm.findClass RL = some m.cls := hown
  have hb : c.code = cL_law := hb
  have hbA : ¬ (kr_new s) b := Nat.not_le.mpr hbl
  obtain ⟨x, ex1⟩ : ∃ v, v = xs (nI (i + 1)).toNatClampNeg := ⟨_, rfl⟩
  refine lv_aload_n hx hb dL_law_977 rfl (lv_at hl 1 rfl) ?_
  refine lv_aload_n hx hb dL_law_978 rfl (lv_at hl 0 rfl) ?_
  refine lv_iload hx hb dL_law_979 (lv_at hl 4 rfl) ?_
  refine lv_iconst (v := 1) hx hb dL_law_981 (by decide) ?_
  refine kr_iaddN hx hb i 1 dL_law_982 ?_
  refine va_sld hx hb hX hbl hbA hS (vp_in_nI (by omega) (by omega)) dL_law_983 ?_
  rw [← ex1]
  refine lv_aload_n hx hb dL_law_984 rfl (lv_at hl 3 rfl) ?_
  refine kr_lawH (n := 3) (As := [.ref h, .int x, .ref o]) (rest := []) ⟨hx, hb, hml, hown, hts⟩ (h_L_rankOf l hl0 D cy cl h a o N L A O H.size x hw) kgh_yL_rankOf ⟨rfl, rfl⟩ (by decide +kernel) ⟨Nat.le_of_ble_eq_true rfl, Nat.le_of_ble_eq_true rfl⟩ hP hK hD hS hT rfl hl.1 rfl (Nat.le_of_ble_eq_true rfl) dL_law_985 ⟨show cells + 1 ≤ 601024 by omega, show slots + 6 ≤ 7293034 by omega⟩ (fun r9 O2 H locs e9 hP hD hS => ?_)
  obtain ⟨e9, hO⟩ := e9
  refine lv_istore (lv' := [(5, .int r9), (0, .ref b), (1, .ref h), (2, .ref h'), (3, .ref o), (4, .int (nI i))]) hx hb dL_law_988 hl (by decide) rfl (fun ls hl => ?_)
  refine lv_aload_n hx hb dL_law_990 rfl (lv_at hl 3 rfl) ?_
  refine lv_aload_n hx hb dL_law_991 rfl (lv_at hl 1 rfl) ?_
  refine lv_iload hx hb dL_law_992 (lv_at hl 5 rfl) ?_
  refine lv_iconst (v := 1) hx hb dL_law_994 (by decide) ?_
  refine kr_iaddN hx hb i 1 dL_law_995 ?_
  refine va_sld hx hb hX hbl hbA hS (vp_in_nI (by omega) (by omega)) dL_law_996 ?_
  rw [← ex1]
  refine kr_lawX (n := 1) (As := [.int x]) (rest := []) ⟨hx, hb, hml, hown, hts⟩ (c_X1_rankOf l D cy h' a' th N L A H.size x hw) kg_RL_149 ⟨rfl, rfl⟩ (by decide +kernel) ⟨Nat.le_of_ble_eq_true rfl, Nat.le_of_ble_eq_true rfl⟩ hP hK hD hS rfl hl.1 rfl (Nat.le_of_ble_eq_true rfl) dL_law_997 ⟨show cells + 1 ≤ 601024 by omega, show slots + 6 ≤ 7293034 by omega⟩ (fun r8 H locs e8 hP hD hS => ?_)
  refine lv_istore (lv' := [(6, .int r8), (5, .int r9), (0, .ref b), (1, .ref h), (2, .ref h'), (3, .ref o), (4, .int (nI i))]) hx hb dL_law_1000 hl (by decide) rfl (fun ls hl => ?_)
  refine lv_aload_n hx hb dL_law_1002 rfl (lv_at hl 4 rfl) ?_
  refine kr_vI (n := 0) (As := []) (rest := []) ⟨hx, hb, hml, hown, hts⟩ (c_X1_thrown l D cy h' a' _ _ _ _) kg_RL_104 ⟨rfl, rfl⟩ (by decide +kernel) ⟨Nat.le_of_ble_eq_true rfl, Nat.le_of_ble_eq_true rfl⟩ (kr_pw1 hP hK) rfl hl.1 rfl (Nat.le_of_ble_eq_true rfl) dL_law_1003 ⟨show cells + 1 ≤ 601024 by omega, show slots + 6 ≤ 7293034 by omega⟩ (fun r7 e7 => ?_)
  refine lv_iload hx hb dL_law_1006 (lv_at hl 1 rfl) ?_
  refine lv_icmp_eq (tgt := 1013) hx hb dL_law_1008 (by decide) (fun c1008 => ?_) (fun c1008 => absurd (e7.trans e9.symm) c1008)
  refine lv_iload hx hb dL_law_1013 (lv_at hl 1 rfl) ?_
  refine lv_if_ne (tgt := 1030) hx hb dL_law_1015 (by decide) (fun c1015 => ?_) (fun c1015 => ?_)
  · refine lv_goto (tgt := 1889) hx hb dL_law_1030 (by decide) ?_
    refine W.widen (k := cells + 16) (n := slots + 112) (by omega) (by omega) ?_
    exact kT _ _ _ _ _ _ _ ls hw hwe hP hD hS (lv_sub hl [2, 3, 4, 5, 6] rfl)
  · have hc : kr_cd (kr_i N x) True True = 0 := e9.symm.trans c1015
    have hO2 : O2 (0 : Int32).toNatClampNeg = Int32.toInt64 r8 := (hO hc).trans (congrArg Int32.toInt64 (e8 hc).symm)
    refine lv_aload_n hx hb dL_law_1018 rfl (lv_at hl 5 rfl) ?_
    refine lv_iconst (v := 0) hx hb dL_law_1019 (by decide) ?_
    refine va_lald hx hb hK hP 18 1 rfl rfl (show ¬ ((0 : Int32) < 0 ∨ 1 ≤ (0 : Int32).toNatClampNeg) by decide) dL_law_1020 ?_
    rw [hO2]
    refine lv_iload hx hb dL_law_1021 (lv_at hl 0 rfl) ?_
    refine lv_i2l (v := r8.toInt64) hx hb dL_law_1023 rfl ?_
    refine W.lcmp hx hb dL_law_1024 ?_
    refine lv_if_eq (tgt := 1030) hx hb dL_law_1025 (by decide) (fun c1025 => ?_) (fun c1025 => absurd (kr_lg _) c1025)
    refine lv_goto (tgt := 1889) hx hb dL_law_1030 (by decide) ?_
    refine W.widen (k := cells + 16) (n := slots + 112) (by omega) (by omega) ?_
    exact kT _ _ _ _ _ _ _ ls hw hwe hP hD hS (lv_sub hl [2, 3, 4, 5, 6] rfl)
theorem kgh_yL_knotAt : GoodIn kr_all (va_wsS RL 150 yL_knotAt (Cond.codeWith yL_knotAt cL_knotAt 5 (some .int) [(0, 10, 13, 13)] :: kr_all)) := kr_gW kq_465 kq_466 kq_47 kq_467
theorem kg_RL_152 : GoodIn kr_all (wsV RL 152 RX1 yX1_knotAt (Cond.code yX1_knotAt cX1_knotAt 4 (some .int) :: kr_all)) := kr_gV kq_702 kq_703 kq_704 kq_49 kq_705
set_option maxHeartbeats 4000000 in
set_option maxRecDepth 100000 in
theorem law_c_knotAt {p : Program} {l : Launch} {e : Env} {s : State} {m : MethodId} {below : List Frame} {meth : Method} {c : Code} {Q : State → Prop} {b Ls : Nat} {xs : Nat → Int32} {D : va_G} {cy cl : ClassId} {h h' o i N L : Nat} {a a' : Nat → Nat} {A : Nat → Nat → Int32} {th : Int32} {O : Nat → Int64} {H : Heap} {locs : List Loc} {cells slots : Nat} {ls : Array Slot} (C0 : lw_At p s m meth c b Ls xs) (hL9 : Ls ≤ 2048) (hl0 : l.stackTraces = false) (hT : kr_T s) (hw : kr_wf N L A) (hwe : kr_we N A) (hK : va_K D vwCl [(cy, .int), (cl, .long)] s) (hP : va_P D vwCl (kr_WW cy cl h a h' a' o N L A th N L A O) H) (hD : va_D (kr_new s) (kr_WW cy cl h a h' a' o N L A th N L A O)) (hS : va_S (kr_new s) s.heap H locs) (hi : i + 4 ≤ Ls) (hl : lv_has ls 9 [(0, .ref b), (1, .ref h), (2, .ref h'), (3, .ref o), (4, .int (nI i))]) (hf : cells + 16 ≤ 601024 ∧ slots + 112 ≤ 7293034) (kT : ∀ (N L : Nat) (A : Nat → Nat → Int32) (th : Int32) (O : Nat → Int64) (H : Heap) (locs : List Loc) (ls : Array Slot), kr_wf N L A → kr_we N A → va_P D vwCl (kr_WW cy cl h a h' a' o N L A th N L A O) H → va_D (kr_new s) (kr_WW cy cl h a h' a' o N L A th N L A O) → va_S (kr_new s) s.heap H locs → lv_has ls 9 [(0, .ref b), (1, .ref h), (2, .ref h'), (3, .ref o), (4, .int (nI i))] → W p l e room_1 s m #[Value.ref b] below meth c H locs (cells + 16) (slots + 112) Q (F0 m 1889 ls [])) : W p l e room_1 s m #[Value.ref b] below meth c H locs cells slots Q (F0 m 1033 ls []) := by
  obtain ⟨hx, hb, hr, hml, hown, hts0, hX, hbl, hlocks, hgv⟩ := id C0
  have hts : ∀ w ∈ kr_all, w.before #[Value.ref b] s = true := fun w hw => hts0 w (List.mem_filter.mp hw).1
  have hown : s.vm.findClass RL = some m.cls := hown
  have hb : c.code = cL_law := hb
  have hbA : ¬ (kr_new s) b := Nat.not_le.mpr hbl
  obtain ⟨x, ex1⟩ : ∃ v, v = xs (nI (i + 1)).toNatClampNeg := ⟨_, rfl⟩
  obtain ⟨y, ex2⟩ : ∃ v, v = xs (nI (i + 2)).toNatClampNeg := ⟨_, rfl⟩
  refine lv_aload_n hx hb dL_law_1033 rfl (lv_at hl 1 rfl) ?_
  refine lv_aload_n hx hb dL_law_1034 rfl (lv_at hl 0 rfl) ?_
  refine lv_iload hx hb dL_law_1035 (lv_at hl 4 rfl) ?_
  refine lv_iconst (v := 1) hx hb dL_law_1037 (by decide) ?_
  refine kr_iaddN hx hb i 1 dL_law_1038 ?_
  refine va_sld hx hb hX hbl hbA hS (vp_in_nI (by omega) (by omega)) dL_law_1039 ?_
  rw [← ex1]
  refine lv_aload_n hx hb dL_law_1040 rfl (lv_at hl 0 rfl) ?_
  refine lv_iload hx hb dL_law_1041 (lv_at hl 4 rfl) ?_
  refine lv_iconst (v := 2) hx hb dL_law_1043 (by decide) ?_
  refine kr_iaddN hx hb i 2 dL_law_1044 ?_
  refine va_sld hx hb hX hbl hbA hS (vp_in_nI (by omega) (by omega)) dL_law_1045 ?_
  rw [← ex2]
  refine lv_aload_n hx hb dL_law_1046 rfl (lv_at hl 3 rfl) ?_
  refine kr_lawH (n := 4) (As := [.ref h, .int x, .int y, .ref o]) (rest := []) ⟨hx, hb, hml, hown, hts⟩ (h_L_knotAt l hl0 D cy cl h a o N L A O H.size x y hw) kgh_yL_knotAt ⟨rfl, rfl⟩ (by decide +kernel) ⟨Nat.le_of_ble_eq_true rfl, Nat.le_of_ble_eq_true rfl⟩ hP hK hD hS hT rfl hl.1 rfl (Nat.le_of_ble_eq_true rfl) dL_law_1047 ⟨show cells + 1 ≤ 601024 by omega, show slots + 6 ≤ 7293034 by omega⟩ (fun r9 O2 H locs e9 hP hD hS => ?_)
  obtain ⟨e9, hO⟩ := e9
  refine lv_istore (lv' := [(5, .int r9), (0, .ref b), (1, .ref h), (2, .ref h'), (3, .ref o), (4, .int (nI i))]) hx hb dL_law_1050 hl (by decide) rfl (fun ls hl => ?_)
  refine lv_aload_n hx hb dL_law_1052 rfl (lv_at hl 3 rfl) ?_
  refine lv_aload_n hx hb dL_law_1053 rfl (lv_at hl 1 rfl) ?_
  refine lv_iload hx hb dL_law_1054 (lv_at hl 5 rfl) ?_
  refine lv_iconst (v := 1) hx hb dL_law_1056 (by decide) ?_
  refine kr_iaddN hx hb i 1 dL_law_1057 ?_
  refine va_sld hx hb hX hbl hbA hS (vp_in_nI (by omega) (by omega)) dL_law_1058 ?_
  rw [← ex1]
  refine lv_aload_n hx hb dL_law_1059 rfl (lv_at hl 1 rfl) ?_
  refine lv_iload hx hb dL_law_1060 (lv_at hl 5 rfl) ?_
  refine lv_iconst (v := 2) hx hb dL_law_1062 (by decide) ?_
  refine kr_iaddN hx hb i 2 dL_law_1063 ?_
  refine va_sld hx hb hX hbl hbA hS (vp_in_nI (by omega) (by omega)) dL_law_1064 ?_
  rw [← ex2]
  refine kr_lawX (n := 2) (As := [.int x, .int y]) (rest := []) ⟨hx, hb, hml, hown, hts⟩ (c_X1_knotAt l D cy h' a' th N L A H.size x y hw) kg_RL_152 ⟨rfl, rfl⟩ (by decide +kernel) ⟨Nat.le_of_ble_eq_true rfl, Nat.le_of_ble_eq_true rfl⟩ hP hK hD hS rfl hl.1 rfl (Nat.le_of_ble_eq_true rfl) dL_law_1065 ⟨show cells + 1 ≤ 601024 by omega, show slots + 6 ≤ 7293034 by omega⟩ (fun r8 H locs e8 hP hD hS => ?_)
  refine lv_istore (lv' := [(6, .int r8), (5, .int r9), (0, .ref b), (1, .ref h), (2, .ref h'), (3, .ref o), (4, .int (nI i))]) hx hb dL_law_1068 hl (by decide) rfl (fun ls hl => ?_)
  refine lv_aload_n hx hb dL_law_1070 rfl (lv_at hl 4 rfl) ?_
  refine kr_vI (n := 0) (As := []) (rest := []) ⟨hx, hb, hml, hown, hts⟩ (c_X1_thrown l D cy h' a' _ _ _ _) kg_RL_104 ⟨rfl, rfl⟩ (by decide +kernel) ⟨Nat.le_of_ble_eq_true rfl, Nat.le_of_ble_eq_true rfl⟩ (kr_pw1 hP hK) rfl hl.1 rfl (Nat.le_of_ble_eq_true rfl) dL_law_1071 ⟨show cells + 1 ≤ 601024 by omega, show slots + 6 ≤ 7293034 by omega⟩ (fun r7 e7 => ?_)
  refine lv_iload hx hb dL_law_1074 (lv_at hl 1 rfl) ?_
  refine lv_icmp_eq (tgt := 1081) hx hb dL_law_1076 (by decide) (fun c1076 => ?_) (fun c1076 => absurd (e7.trans e9.symm) c1076)
  refine lv_iload hx hb dL_law_1081 (lv_at hl 1 rfl) ?_
  refine lv_if_ne (tgt := 1098) hx hb dL_law_1083 (by decide) (fun c1083 => ?_) (fun c1083 => ?_)
  · refine lv_goto (tgt := 1889) hx hb dL_law_1098 (by decide) ?_
    refine W.widen (k := cells + 16) (n := slots + 112) (by omega) (by omega) ?_
    exact kT _ _ _ _ _ _ _ ls hw hwe hP hD hS (lv_sub hl [2, 3, 4, 5, 6] rfl)
  · have hc : kr_cd ((x = 0 ∨ x = 1) ∧ ¬ kr_kw A N x y N 0 = -1) True True = 0 := e9.symm.trans c1083
    have hO2 : O2 (0 : Int32).toNatClampNeg = Int32.toInt64 r8 := (hO hc).trans (congrArg Int32.toInt64 (e8 hc).symm)
    refine lv_aload_n hx hb dL_law_1086 rfl (lv_at hl 5 rfl) ?_
    refine lv_iconst (v := 0) hx hb dL_law_1087 (by decide) ?_
    refine va_lald hx hb hK hP 18 1 rfl rfl (show ¬ ((0 : Int32) < 0 ∨ 1 ≤ (0 : Int32).toNatClampNeg) by decide) dL_law_1088 ?_
    rw [hO2]
    refine lv_iload hx hb dL_law_1089 (lv_at hl 0 rfl) ?_
    refine lv_i2l (v := r8.toInt64) hx hb dL_law_1091 rfl ?_
    refine W.lcmp hx hb dL_law_1092 ?_
    refine lv_if_eq (tgt := 1098) hx hb dL_law_1093 (by decide) (fun c1093 => ?_) (fun c1093 => absurd (kr_lg _) c1093)
    refine lv_goto (tgt := 1889) hx hb dL_law_1098 (by decide) ?_
    refine W.widen (k := cells + 16) (n := slots + 112) (by omega) (by omega) ?_
    exact kT _ _ _ _ _ _ _ ls hw hwe hP hD hS (lv_sub hl [2, 3, 4, 5, 6] rfl)
theorem kgh_yL_formOf : GoodIn kr_all (va_wsS RL 153 yL_formOf (Cond.codeWith yL_formOf cL_formOf 5 (some .int) [(0, 10, 13, 13), (0, 10, 17, 15)] :: kr_all)) := kr_gW kq_477 kq_478 kq_47 kq_479
theorem kg_RL_155 : GoodIn kr_all (wsV RL 155 RX1 yX1_formOf (Cond.code yX1_formOf cX1_formOf 3 (some .int) :: kr_all)) := kr_gV kq_706 kq_707 kq_708 kq_49 kq_709
set_option maxHeartbeats 4000000 in
set_option maxRecDepth 100000 in
theorem law_c_formOf {p : Program} {l : Launch} {e : Env} {s : State} {m : MethodId} {below : List Frame} {meth : Method} {c : Code} {Q : State → Prop} {b Ls : Nat} {xs : Nat → Int32} {D : va_G} {cy cl : ClassId} {h h' o i N L : Nat} {a a' : Nat → Nat} {A : Nat → Nat → Int32} {th : Int32} {O : Nat → Int64} {H : Heap} {locs : List Loc} {cells slots : Nat} {ls : Array Slot} (C0 : lw_At p s m meth c b Ls xs) (hL9 : Ls ≤ 2048) (hl0 : l.stackTraces = false) (hT : kr_T s) (hw : kr_wf N L A) (hwe : kr_we N A) (hK : va_K D vwCl [(cy, .int), (cl, .long)] s) (hP : va_P D vwCl (kr_WW cy cl h a h' a' o N L A th N L A O) H) (hD : va_D (kr_new s) (kr_WW cy cl h a h' a' o N L A th N L A O)) (hS : va_S (kr_new s) s.heap H locs) (hi : i + 4 ≤ Ls) (hl : lv_has ls 9 [(0, .ref b), (1, .ref h), (2, .ref h'), (3, .ref o), (4, .int (nI i))]) (hf : cells + 16 ≤ 601024 ∧ slots + 112 ≤ 7293034) (kT : ∀ (N L : Nat) (A : Nat → Nat → Int32) (th : Int32) (O : Nat → Int64) (H : Heap) (locs : List Loc) (ls : Array Slot), kr_wf N L A → kr_we N A → va_P D vwCl (kr_WW cy cl h a h' a' o N L A th N L A O) H → va_D (kr_new s) (kr_WW cy cl h a h' a' o N L A th N L A O) → va_S (kr_new s) s.heap H locs → lv_has ls 9 [(0, .ref b), (1, .ref h), (2, .ref h'), (3, .ref o), (4, .int (nI i))] → W p l e room_1 s m #[Value.ref b] below meth c H locs (cells + 16) (slots + 112) Q (F0 m 1889 ls [])) : W p l e room_1 s m #[Value.ref b] below meth c H locs cells slots Q (F0 m 1101 ls []) := by
  obtain ⟨hx, hb, hr, hml, hown, hts0, hX, hbl, hlocks, hgv⟩ := id C0
  have hts : ∀ w ∈ kr_all, w.before #[Value.ref b] s = true := fun w hw => hts0 w (List.mem_filter.mp hw).1
  have hown : s.vm.findClass RL = some m.cls := hown
  have hb : c.code = cL_law := hb
  have hbA : ¬ (kr_new s) b := Nat.not_le.mpr hbl
  obtain ⟨x, ex1⟩ : ∃ v, v = xs (nI (i + 1)).toNatClampNeg := ⟨_, rfl⟩
  obtain ⟨y, ex2⟩ : ∃ v, v = xs (nI (i + 2)).toNatClampNeg := ⟨_, rfl⟩
  refine lv_aload_n hx hb dL_law_1101 rfl (lv_at hl 1 rfl) ?_
  refine lv_aload_n hx hb dL_law_1102 rfl (lv_at hl 0 rfl) ?_
  refine lv_iload hx hb dL_law_1103 (lv_at hl 4 rfl) ?_
  refine lv_iconst (v := 1) hx hb dL_law_1105 (by decide) ?_
  refine kr_iaddN hx hb i 1 dL_law_1106 ?_
  refine va_sld hx hb hX hbl hbA hS (vp_in_nI (by omega) (by omega)) dL_law_1107 ?_
  rw [← ex1]
  refine lv_aload_n hx hb dL_law_1108 rfl (lv_at hl 0 rfl) ?_
  refine lv_iload hx hb dL_law_1109 (lv_at hl 4 rfl) ?_
  refine lv_iconst (v := 2) hx hb dL_law_1111 (by decide) ?_
  refine kr_iaddN hx hb i 2 dL_law_1112 ?_
  refine va_sld hx hb hX hbl hbA hS (vp_in_nI (by omega) (by omega)) dL_law_1113 ?_
  rw [← ex2]
  refine lv_aload_n hx hb dL_law_1114 rfl (lv_at hl 3 rfl) ?_
  refine kr_lawH (n := 4) (As := [.ref h, .int x, .int y, .ref o]) (rest := []) ⟨hx, hb, hml, hown, hts⟩ (h_L_formOf l hl0 D cy cl h a o N L A O H.size x y hw) kgh_yL_formOf ⟨rfl, rfl⟩ (by decide +kernel) ⟨Nat.le_of_ble_eq_true rfl, Nat.le_of_ble_eq_true rfl⟩ hP hK hD hS hT rfl hl.1 rfl (Nat.le_of_ble_eq_true rfl) dL_law_1115 ⟨show cells + 1 ≤ 601024 by omega, show slots + 6 ≤ 7293034 by omega⟩ (fun r9 O2 H locs e9 hP hD hS => ?_)
  obtain ⟨e9, hO⟩ := e9
  refine lv_istore (lv' := [(5, .int r9), (0, .ref b), (1, .ref h), (2, .ref h'), (3, .ref o), (4, .int (nI i))]) hx hb dL_law_1118 hl (by decide) rfl (fun ls hl => ?_)
  refine lv_aload_n hx hb dL_law_1120 rfl (lv_at hl 3 rfl) ?_
  refine lv_aload_n hx hb dL_law_1121 rfl (lv_at hl 1 rfl) ?_
  refine lv_iload hx hb dL_law_1122 (lv_at hl 5 rfl) ?_
  refine lv_iconst (v := 1) hx hb dL_law_1124 (by decide) ?_
  refine kr_iaddN hx hb i 1 dL_law_1125 ?_
  refine va_sld hx hb hX hbl hbA hS (vp_in_nI (by omega) (by omega)) dL_law_1126 ?_
  rw [← ex1]
  refine lv_aload_n hx hb dL_law_1127 rfl (lv_at hl 1 rfl) ?_
  refine lv_iload hx hb dL_law_1128 (lv_at hl 5 rfl) ?_
  refine lv_iconst (v := 2) hx hb dL_law_1130 (by decide) ?_
  refine kr_iaddN hx hb i 2 dL_law_1131 ?_
  refine va_sld hx hb hX hbl hbA hS (vp_in_nI (by omega) (by omega)) dL_law_1132 ?_
  rw [← ex2]
  refine kr_lawX (n := 2) (As := [.int x, .int y]) (rest := []) ⟨hx, hb, hml, hown, hts⟩ (c_X1_formOf l D cy h' a' th N L A H.size x y hw) kg_RL_155 ⟨rfl, rfl⟩ (by decide +kernel) ⟨Nat.le_of_ble_eq_true rfl, Nat.le_of_ble_eq_true rfl⟩ hP hK hD hS rfl hl.1 rfl (Nat.le_of_ble_eq_true rfl) dL_law_1133 ⟨show cells + 1 ≤ 601024 by omega, show slots + 6 ≤ 7293034 by omega⟩ (fun r8 H locs e8 hP hD hS => ?_)
  refine lv_istore (lv' := [(6, .int r8), (5, .int r9), (0, .ref b), (1, .ref h), (2, .ref h'), (3, .ref o), (4, .int (nI i))]) hx hb dL_law_1136 hl (by decide) rfl (fun ls hl => ?_)
  refine lv_aload_n hx hb dL_law_1138 rfl (lv_at hl 4 rfl) ?_
  refine kr_vI (n := 0) (As := []) (rest := []) ⟨hx, hb, hml, hown, hts⟩ (c_X1_thrown l D cy h' a' _ _ _ _) kg_RL_104 ⟨rfl, rfl⟩ (by decide +kernel) ⟨Nat.le_of_ble_eq_true rfl, Nat.le_of_ble_eq_true rfl⟩ (kr_pw1 hP hK) rfl hl.1 rfl (Nat.le_of_ble_eq_true rfl) dL_law_1139 ⟨show cells + 1 ≤ 601024 by omega, show slots + 6 ≤ 7293034 by omega⟩ (fun r7 e7 => ?_)
  refine lv_iload hx hb dL_law_1142 (lv_at hl 1 rfl) ?_
  refine lv_icmp_eq (tgt := 1149) hx hb dL_law_1144 (by decide) (fun c1144 => ?_) (fun c1144 => absurd (e7.trans e9.symm) c1144)
  refine lv_iload hx hb dL_law_1149 (lv_at hl 1 rfl) ?_
  refine lv_if_ne (tgt := 1166) hx hb dL_law_1151 (by decide) (fun c1151 => ?_) (fun c1151 => ?_)
  · refine lv_goto (tgt := 1889) hx hb dL_law_1166 (by decide) ?_
    refine W.widen (k := cells + 16) (n := slots + 112) (by omega) (by omega) ?_
    exact kT _ _ _ _ _ _ _ ls hw hwe hP hD hS (lv_sub hl [2, 3, 4, 5, 6] rfl)
  · have hc : kr_cd (kr_i N x) (kr_o y) True = 0 := e9.symm.trans c1151
    have hO2 : O2 (0 : Int32).toNatClampNeg = Int32.toInt64 r8 := (hO hc).trans (congrArg Int32.toInt64 (e8 hc).symm)
    refine lv_aload_n hx hb dL_law_1154 rfl (lv_at hl 5 rfl) ?_
    refine lv_iconst (v := 0) hx hb dL_law_1155 (by decide) ?_
    refine va_lald hx hb hK hP 18 1 rfl rfl (show ¬ ((0 : Int32) < 0 ∨ 1 ≤ (0 : Int32).toNatClampNeg) by decide) dL_law_1156 ?_
    rw [hO2]
    refine lv_iload hx hb dL_law_1157 (lv_at hl 0 rfl) ?_
    refine lv_i2l (v := r8.toInt64) hx hb dL_law_1159 rfl ?_
    refine W.lcmp hx hb dL_law_1160 ?_
    refine lv_if_eq (tgt := 1166) hx hb dL_law_1161 (by decide) (fun c1161 => ?_) (fun c1161 => absurd (kr_lg _) c1161)
    refine lv_goto (tgt := 1889) hx hb dL_law_1166 (by decide) ?_
    refine W.widen (k := cells + 16) (n := slots + 112) (by omega) (by omega) ?_
    exact kT _ _ _ _ _ _ _ ls hw hwe hP hD hS (lv_sub hl [2, 3, 4, 5, 6] rfl)
theorem kgh_yL_spills : GoodIn kr_all (va_wsS RL 156 yL_spills (Cond.codeWith yL_spills cL_spills 5 (some .int) [(0, 10, 13, 13), (0, 10, 17, 15)] :: kr_all)) := kr_gW kq_484 kq_485 kq_47 kq_486
theorem kg_RL_158 : GoodIn kr_all (wsV RL 158 RX1 yX1_spills (Cond.code yX1_spills cX1_spills 3 (some .int) :: kr_all)) := kr_gV kq_714 kq_715 kq_716 kq_49 kq_717
set_option maxHeartbeats 4000000 in
set_option maxRecDepth 100000 in
theorem law_c_spills {p : Program} {l : Launch} {e : Env} {s : State} {m : MethodId} {below : List Frame} {meth : Method} {c : Code} {Q : State → Prop} {b Ls : Nat} {xs : Nat → Int32} {D : va_G} {cy cl : ClassId} {h h' o i N L : Nat} {a a' : Nat → Nat} {A : Nat → Nat → Int32} {th : Int32} {O : Nat → Int64} {H : Heap} {locs : List Loc} {cells slots : Nat} {ls : Array Slot} (C0 : lw_At p s m meth c b Ls xs) (hL9 : Ls ≤ 2048) (hl0 : l.stackTraces = false) (hT : kr_T s) (hw : kr_wf N L A) (hwe : kr_we N A) (hK : va_K D vwCl [(cy, .int), (cl, .long)] s) (hP : va_P D vwCl (kr_WW cy cl h a h' a' o N L A th N L A O) H) (hD : va_D (kr_new s) (kr_WW cy cl h a h' a' o N L A th N L A O)) (hS : va_S (kr_new s) s.heap H locs) (hi : i + 4 ≤ Ls) (hl : lv_has ls 9 [(0, .ref b), (1, .ref h), (2, .ref h'), (3, .ref o), (4, .int (nI i))]) (hf : cells + 16 ≤ 601024 ∧ slots + 112 ≤ 7293034) (kT : ∀ (N L : Nat) (A : Nat → Nat → Int32) (th : Int32) (O : Nat → Int64) (H : Heap) (locs : List Loc) (ls : Array Slot), kr_wf N L A → kr_we N A → va_P D vwCl (kr_WW cy cl h a h' a' o N L A th N L A O) H → va_D (kr_new s) (kr_WW cy cl h a h' a' o N L A th N L A O) → va_S (kr_new s) s.heap H locs → lv_has ls 9 [(0, .ref b), (1, .ref h), (2, .ref h'), (3, .ref o), (4, .int (nI i))] → W p l e room_1 s m #[Value.ref b] below meth c H locs (cells + 16) (slots + 112) Q (F0 m 1889 ls [])) : W p l e room_1 s m #[Value.ref b] below meth c H locs cells slots Q (F0 m 1169 ls []) := by
  obtain ⟨hx, hb, hr, hml, hown, hts0, hX, hbl, hlocks, hgv⟩ := id C0
  have hts : ∀ w ∈ kr_all, w.before #[Value.ref b] s = true := fun w hw => hts0 w (List.mem_filter.mp hw).1
  have hown : s.vm.findClass RL = some m.cls := hown
  have hb : c.code = cL_law := hb
  have hbA : ¬ (kr_new s) b := Nat.not_le.mpr hbl
  obtain ⟨x, ex1⟩ : ∃ v, v = xs (nI (i + 1)).toNatClampNeg := ⟨_, rfl⟩
  obtain ⟨y, ex2⟩ : ∃ v, v = xs (nI (i + 2)).toNatClampNeg := ⟨_, rfl⟩
  refine lv_aload_n hx hb dL_law_1169 rfl (lv_at hl 1 rfl) ?_
  refine lv_aload_n hx hb dL_law_1170 rfl (lv_at hl 0 rfl) ?_
  refine lv_iload hx hb dL_law_1171 (lv_at hl 4 rfl) ?_
  refine lv_iconst (v := 1) hx hb dL_law_1173 (by decide) ?_
  refine kr_iaddN hx hb i 1 dL_law_1174 ?_
  refine va_sld hx hb hX hbl hbA hS (vp_in_nI (by omega) (by omega)) dL_law_1175 ?_
  rw [← ex1]
  refine lv_aload_n hx hb dL_law_1176 rfl (lv_at hl 0 rfl) ?_
  refine lv_iload hx hb dL_law_1177 (lv_at hl 4 rfl) ?_
  refine lv_iconst (v := 2) hx hb dL_law_1179 (by decide) ?_
  refine kr_iaddN hx hb i 2 dL_law_1180 ?_
  refine va_sld hx hb hX hbl hbA hS (vp_in_nI (by omega) (by omega)) dL_law_1181 ?_
  rw [← ex2]
  refine lv_aload_n hx hb dL_law_1182 rfl (lv_at hl 3 rfl) ?_
  refine kr_lawH (n := 4) (As := [.ref h, .int x, .int y, .ref o]) (rest := []) ⟨hx, hb, hml, hown, hts⟩ (h_L_spills l hl0 D cy cl h a o N L A O H.size x y hw) kgh_yL_spills ⟨rfl, rfl⟩ (by decide +kernel) ⟨Nat.le_of_ble_eq_true rfl, Nat.le_of_ble_eq_true rfl⟩ hP hK hD hS hT rfl hl.1 rfl (Nat.le_of_ble_eq_true rfl) dL_law_1183 ⟨show cells + 1 ≤ 601024 by omega, show slots + 6 ≤ 7293034 by omega⟩ (fun r9 O2 H locs e9 hP hD hS => ?_)
  obtain ⟨e9, hO⟩ := e9
  refine lv_istore (lv' := [(5, .int r9), (0, .ref b), (1, .ref h), (2, .ref h'), (3, .ref o), (4, .int (nI i))]) hx hb dL_law_1186 hl (by decide) rfl (fun ls hl => ?_)
  refine lv_aload_n hx hb dL_law_1188 rfl (lv_at hl 3 rfl) ?_
  refine lv_aload_n hx hb dL_law_1189 rfl (lv_at hl 1 rfl) ?_
  refine lv_iload hx hb dL_law_1190 (lv_at hl 5 rfl) ?_
  refine lv_iconst (v := 1) hx hb dL_law_1192 (by decide) ?_
  refine kr_iaddN hx hb i 1 dL_law_1193 ?_
  refine va_sld hx hb hX hbl hbA hS (vp_in_nI (by omega) (by omega)) dL_law_1194 ?_
  rw [← ex1]
  refine lv_aload_n hx hb dL_law_1195 rfl (lv_at hl 1 rfl) ?_
  refine lv_iload hx hb dL_law_1196 (lv_at hl 5 rfl) ?_
  refine lv_iconst (v := 2) hx hb dL_law_1198 (by decide) ?_
  refine kr_iaddN hx hb i 2 dL_law_1199 ?_
  refine va_sld hx hb hX hbl hbA hS (vp_in_nI (by omega) (by omega)) dL_law_1200 ?_
  rw [← ex2]
  refine kr_lawX (n := 2) (As := [.int x, .int y]) (rest := []) ⟨hx, hb, hml, hown, hts⟩ (c_X1_spills l D cy h' a' th N L A H.size x y hw) kg_RL_158 ⟨rfl, rfl⟩ (by decide +kernel) ⟨Nat.le_of_ble_eq_true rfl, Nat.le_of_ble_eq_true rfl⟩ hP hK hD hS rfl hl.1 rfl (Nat.le_of_ble_eq_true rfl) dL_law_1201 ⟨show cells + 1 ≤ 601024 by omega, show slots + 6 ≤ 7293034 by omega⟩ (fun r8 H locs e8 hP hD hS => ?_)
  refine lv_istore (lv' := [(6, .int r8), (5, .int r9), (0, .ref b), (1, .ref h), (2, .ref h'), (3, .ref o), (4, .int (nI i))]) hx hb dL_law_1204 hl (by decide) rfl (fun ls hl => ?_)
  refine lv_aload_n hx hb dL_law_1206 rfl (lv_at hl 4 rfl) ?_
  refine kr_vI (n := 0) (As := []) (rest := []) ⟨hx, hb, hml, hown, hts⟩ (c_X1_thrown l D cy h' a' _ _ _ _) kg_RL_104 ⟨rfl, rfl⟩ (by decide +kernel) ⟨Nat.le_of_ble_eq_true rfl, Nat.le_of_ble_eq_true rfl⟩ (kr_pw1 hP hK) rfl hl.1 rfl (Nat.le_of_ble_eq_true rfl) dL_law_1207 ⟨show cells + 1 ≤ 601024 by omega, show slots + 6 ≤ 7293034 by omega⟩ (fun r7 e7 => ?_)
  refine lv_iload hx hb dL_law_1210 (lv_at hl 1 rfl) ?_
  refine lv_icmp_eq (tgt := 1217) hx hb dL_law_1212 (by decide) (fun c1212 => ?_) (fun c1212 => absurd (e7.trans e9.symm) c1212)
  refine lv_iload hx hb dL_law_1217 (lv_at hl 1 rfl) ?_
  refine lv_if_ne (tgt := 1234) hx hb dL_law_1219 (by decide) (fun c1219 => ?_) (fun c1219 => ?_)
  · refine lv_goto (tgt := 1889) hx hb dL_law_1234 (by decide) ?_
    refine W.widen (k := cells + 16) (n := slots + 112) (by omega) (by omega) ?_
    exact kT _ _ _ _ _ _ _ ls hw hwe hP hD hS (lv_sub hl [2, 3, 4, 5, 6] rfl)
  · have hc : kr_cd (kr_i N x) (kr_o y) True = 0 := e9.symm.trans c1219
    have hO2 : O2 (0 : Int32).toNatClampNeg = Int32.toInt64 r8 := (hO hc).trans (congrArg Int32.toInt64 (e8 hc).symm)
    refine lv_aload_n hx hb dL_law_1222 rfl (lv_at hl 5 rfl) ?_
    refine lv_iconst (v := 0) hx hb dL_law_1223 (by decide) ?_
    refine va_lald hx hb hK hP 18 1 rfl rfl (show ¬ ((0 : Int32) < 0 ∨ 1 ≤ (0 : Int32).toNatClampNeg) by decide) dL_law_1224 ?_
    rw [hO2]
    refine lv_iload hx hb dL_law_1225 (lv_at hl 0 rfl) ?_
    refine lv_i2l (v := r8.toInt64) hx hb dL_law_1227 rfl ?_
    refine W.lcmp hx hb dL_law_1228 ?_
    refine lv_if_eq (tgt := 1234) hx hb dL_law_1229 (by decide) (fun c1229 => ?_) (fun c1229 => absurd (kr_lg _) c1229)
    refine lv_goto (tgt := 1889) hx hb dL_law_1234 (by decide) ?_
    refine W.widen (k := cells + 16) (n := slots + 112) (by omega) (by omega) ?_
    exact kT _ _ _ _ _ _ _ ls hw hwe hP hD hS (lv_sub hl [2, 3, 4, 5, 6] rfl)
theorem kgh_yL_fallsApartAt : GoodIn kr_all (va_wsS RL 159 yL_fallsApartAt (Cond.codeWith yL_fallsApartAt cL_fallsApartAt 4 (some .int) [(0, 9, 12, 13)] :: kr_all)) := kr_gW kq_491 kq_492 kq_47 kq_493
theorem kg_RL_161 : GoodIn kr_all (wsV RL 161 RX1 yX1_fallsApartAt (Cond.code yX1_fallsApartAt cX1_fallsApartAt 2 (some .int) :: kr_all)) := kr_gV kq_722 kq_723 kq_724 kq_49 kq_725
set_option maxHeartbeats 4000000 in
set_option maxRecDepth 100000 in
theorem law_c_fallsApartAt {p : Program} {l : Launch} {e : Env} {s : State} {m : MethodId} {below : List Frame} {meth : Method} {c : Code} {Q : State → Prop} {b Ls : Nat} {xs : Nat → Int32} {D : va_G} {cy cl : ClassId} {h h' o i N L : Nat} {a a' : Nat → Nat} {A : Nat → Nat → Int32} {th : Int32} {O : Nat → Int64} {H : Heap} {locs : List Loc} {cells slots : Nat} {ls : Array Slot} (C0 : lw_At p s m meth c b Ls xs) (hL9 : Ls ≤ 2048) (hl0 : l.stackTraces = false) (hT : kr_T s) (hw : kr_wf N L A) (hwe : kr_we N A) (hK : va_K D vwCl [(cy, .int), (cl, .long)] s) (hP : va_P D vwCl (kr_WW cy cl h a h' a' o N L A th N L A O) H) (hD : va_D (kr_new s) (kr_WW cy cl h a h' a' o N L A th N L A O)) (hS : va_S (kr_new s) s.heap H locs) (hi : i + 4 ≤ Ls) (hl : lv_has ls 9 [(0, .ref b), (1, .ref h), (2, .ref h'), (3, .ref o), (4, .int (nI i))]) (hf : cells + 16 ≤ 601024 ∧ slots + 112 ≤ 7293034) (kT : ∀ (N L : Nat) (A : Nat → Nat → Int32) (th : Int32) (O : Nat → Int64) (H : Heap) (locs : List Loc) (ls : Array Slot), kr_wf N L A → kr_we N A → va_P D vwCl (kr_WW cy cl h a h' a' o N L A th N L A O) H → va_D (kr_new s) (kr_WW cy cl h a h' a' o N L A th N L A O) → va_S (kr_new s) s.heap H locs → lv_has ls 9 [(0, .ref b), (1, .ref h), (2, .ref h'), (3, .ref o), (4, .int (nI i))] → W p l e room_1 s m #[Value.ref b] below meth c H locs (cells + 16) (slots + 112) Q (F0 m 1889 ls [])) : W p l e room_1 s m #[Value.ref b] below meth c H locs cells slots Q (F0 m 1237 ls []) := by
  obtain ⟨hx, hb, hr, hml, hown, hts0, hX, hbl, hlocks, hgv⟩ := id C0
  have hts : ∀ w ∈ kr_all, w.before #[Value.ref b] s = true := fun w hw => hts0 w (List.mem_filter.mp hw).1
  have hown : s.vm.findClass RL = some m.cls := hown
  have hb : c.code = cL_law := hb
  have hbA : ¬ (kr_new s) b := Nat.not_le.mpr hbl
  obtain ⟨x, ex1⟩ : ∃ v, v = xs (nI (i + 1)).toNatClampNeg := ⟨_, rfl⟩
  refine lv_aload_n hx hb dL_law_1237 rfl (lv_at hl 1 rfl) ?_
  refine lv_aload_n hx hb dL_law_1238 rfl (lv_at hl 0 rfl) ?_
  refine lv_iload hx hb dL_law_1239 (lv_at hl 4 rfl) ?_
  refine lv_iconst (v := 1) hx hb dL_law_1241 (by decide) ?_
  refine kr_iaddN hx hb i 1 dL_law_1242 ?_
  refine va_sld hx hb hX hbl hbA hS (vp_in_nI (by omega) (by omega)) dL_law_1243 ?_
  rw [← ex1]
  refine lv_aload_n hx hb dL_law_1244 rfl (lv_at hl 3 rfl) ?_
  refine kr_lawH (n := 3) (As := [.ref h, .int x, .ref o]) (rest := []) ⟨hx, hb, hml, hown, hts⟩ (h_L_fallsApartAt l hl0 D cy cl h a o N L A O H.size x hw) kgh_yL_fallsApartAt ⟨rfl, rfl⟩ (by decide +kernel) ⟨Nat.le_of_ble_eq_true rfl, Nat.le_of_ble_eq_true rfl⟩ hP hK hD hS hT rfl hl.1 rfl (Nat.le_of_ble_eq_true rfl) dL_law_1245 ⟨show cells + 1 ≤ 601024 by omega, show slots + 6 ≤ 7293034 by omega⟩ (fun r9 O2 H locs e9 hP hD hS => ?_)
  obtain ⟨e9, hO⟩ := e9
  refine lv_istore (lv' := [(5, .int r9), (0, .ref b), (1, .ref h), (2, .ref h'), (3, .ref o), (4, .int (nI i))]) hx hb dL_law_1248 hl (by decide) rfl (fun ls hl => ?_)
  refine lv_aload_n hx hb dL_law_1250 rfl (lv_at hl 3 rfl) ?_
  refine lv_aload_n hx hb dL_law_1251 rfl (lv_at hl 1 rfl) ?_
  refine lv_iload hx hb dL_law_1252 (lv_at hl 5 rfl) ?_
  refine lv_iconst (v := 1) hx hb dL_law_1254 (by decide) ?_
  refine kr_iaddN hx hb i 1 dL_law_1255 ?_
  refine va_sld hx hb hX hbl hbA hS (vp_in_nI (by omega) (by omega)) dL_law_1256 ?_
  rw [← ex1]
  refine kr_lawX (n := 1) (As := [.int x]) (rest := []) ⟨hx, hb, hml, hown, hts⟩ (c_X1_fallsApartAt l D cy h' a' th N L A H.size x hw) kg_RL_161 ⟨rfl, rfl⟩ (by decide +kernel) ⟨Nat.le_of_ble_eq_true rfl, Nat.le_of_ble_eq_true rfl⟩ hP hK hD hS rfl hl.1 rfl (Nat.le_of_ble_eq_true rfl) dL_law_1257 ⟨show cells + 1 ≤ 601024 by omega, show slots + 6 ≤ 7293034 by omega⟩ (fun r8 H locs e8 hP hD hS => ?_)
  refine lv_istore (lv' := [(6, .int r8), (5, .int r9), (0, .ref b), (1, .ref h), (2, .ref h'), (3, .ref o), (4, .int (nI i))]) hx hb dL_law_1260 hl (by decide) rfl (fun ls hl => ?_)
  refine lv_aload_n hx hb dL_law_1262 rfl (lv_at hl 4 rfl) ?_
  refine kr_vI (n := 0) (As := []) (rest := []) ⟨hx, hb, hml, hown, hts⟩ (c_X1_thrown l D cy h' a' _ _ _ _) kg_RL_104 ⟨rfl, rfl⟩ (by decide +kernel) ⟨Nat.le_of_ble_eq_true rfl, Nat.le_of_ble_eq_true rfl⟩ (kr_pw1 hP hK) rfl hl.1 rfl (Nat.le_of_ble_eq_true rfl) dL_law_1263 ⟨show cells + 1 ≤ 601024 by omega, show slots + 6 ≤ 7293034 by omega⟩ (fun r7 e7 => ?_)
  refine lv_iload hx hb dL_law_1266 (lv_at hl 1 rfl) ?_
  refine lv_icmp_eq (tgt := 1273) hx hb dL_law_1268 (by decide) (fun c1268 => ?_) (fun c1268 => absurd (e7.trans e9.symm) c1268)
  refine lv_iload hx hb dL_law_1273 (lv_at hl 1 rfl) ?_
  refine lv_if_ne (tgt := 1290) hx hb dL_law_1275 (by decide) (fun c1275 => ?_) (fun c1275 => ?_)
  · refine lv_goto (tgt := 1889) hx hb dL_law_1290 (by decide) ?_
    refine W.widen (k := cells + 16) (n := slots + 112) (by omega) (by omega) ?_
    exact kT _ _ _ _ _ _ _ ls hw hwe hP hD hS (lv_sub hl [2, 3, 4, 5, 6] rfl)
  · have hc : kr_cd (kr_i N x) True True = 0 := e9.symm.trans c1275
    have hO2 : O2 (0 : Int32).toNatClampNeg = Int32.toInt64 r8 := (hO hc).trans (congrArg Int32.toInt64 (e8 hc).symm)
    refine lv_aload_n hx hb dL_law_1278 rfl (lv_at hl 5 rfl) ?_
    refine lv_iconst (v := 0) hx hb dL_law_1279 (by decide) ?_
    refine va_lald hx hb hK hP 18 1 rfl rfl (show ¬ ((0 : Int32) < 0 ∨ 1 ≤ (0 : Int32).toNatClampNeg) by decide) dL_law_1280 ?_
    rw [hO2]
    refine lv_iload hx hb dL_law_1281 (lv_at hl 0 rfl) ?_
    refine lv_i2l (v := r8.toInt64) hx hb dL_law_1283 rfl ?_
    refine W.lcmp hx hb dL_law_1284 ?_
    refine lv_if_eq (tgt := 1290) hx hb dL_law_1285 (by decide) (fun c1285 => ?_) (fun c1285 => absurd (kr_lg _) c1285)
    refine lv_goto (tgt := 1889) hx hb dL_law_1290 (by decide) ?_
    refine W.widen (k := cells + 16) (n := slots + 112) (by omega) (by omega) ?_
    exact kT _ _ _ _ _ _ _ ls hw hwe hP hD hS (lv_sub hl [2, 3, 4, 5, 6] rfl)
theorem kg_RL_162 : GoodIn kr_all (wsV RL 162 RX0 yX0_lines (Cond.code yX0_lines cX0_lines 1 (some .int) :: kr_all)) := kr_gV kq_101 kq_102 kq_103 kq_48 kq_104
theorem kg_RL_165 : GoodIn kr_all (wsV RL 165 RX1 yX1_lines (Cond.code yX1_lines cX1_lines 1 (some .int) :: kr_all)) := kr_gV kq_731 kq_732 kq_733 kq_49 kq_734
set_option maxHeartbeats 4000000 in
set_option maxRecDepth 100000 in
theorem law_c_lines {p : Program} {l : Launch} {e : Env} {s : State} {m : MethodId} {below : List Frame} {meth : Method} {c : Code} {Q : State → Prop} {b Ls : Nat} {xs : Nat → Int32} {D : va_G} {cy cl : ClassId} {h h' o i N L : Nat} {a a' : Nat → Nat} {A : Nat → Nat → Int32} {th : Int32} {O : Nat → Int64} {H : Heap} {locs : List Loc} {cells slots : Nat} {ls : Array Slot} (C0 : lw_At p s m meth c b Ls xs) (hL9 : Ls ≤ 2048) (hl0 : l.stackTraces = false) (hT : kr_T s) (hw : kr_wf N L A) (hwe : kr_we N A) (hK : va_K D vwCl [(cy, .int), (cl, .long)] s) (hP : va_P D vwCl (kr_WW cy cl h a h' a' o N L A th N L A O) H) (hD : va_D (kr_new s) (kr_WW cy cl h a h' a' o N L A th N L A O)) (hS : va_S (kr_new s) s.heap H locs) (hi : i + 4 ≤ Ls) (hl : lv_has ls 9 [(0, .ref b), (1, .ref h), (2, .ref h'), (3, .ref o), (4, .int (nI i))]) (hf : cells + 16 ≤ 601024 ∧ slots + 112 ≤ 7293034) (kT : ∀ (N L : Nat) (A : Nat → Nat → Int32) (th : Int32) (O : Nat → Int64) (H : Heap) (locs : List Loc) (ls : Array Slot), kr_wf N L A → kr_we N A → va_P D vwCl (kr_WW cy cl h a h' a' o N L A th N L A O) H → va_D (kr_new s) (kr_WW cy cl h a h' a' o N L A th N L A O) → va_S (kr_new s) s.heap H locs → lv_has ls 9 [(0, .ref b), (1, .ref h), (2, .ref h'), (3, .ref o), (4, .int (nI i))] → W p l e room_1 s m #[Value.ref b] below meth c H locs (cells + 16) (slots + 112) Q (F0 m 1889 ls [])) : W p l e room_1 s m #[Value.ref b] below meth c H locs cells slots Q (F0 m 1293 ls []) := by
  obtain ⟨hx, hb, hr, hml, hown, hts0, hX, hbl, hlocks, hgv⟩ := id C0
  have hts : ∀ w ∈ kr_all, w.before #[Value.ref b] s = true := fun w hw => hts0 w (List.mem_filter.mp hw).1
  have hown : s.vm.findClass RL = some m.cls := hown
  have hb : c.code = cL_law := hb
  have hbA : ¬ (kr_new s) b := Nat.not_le.mpr hbl
  refine lv_aload_n hx hb dL_law_1293 rfl (lv_at hl 1 rfl) ?_
  refine kr_vI (n := 0) (As := []) (rest := []) ⟨hx, hb, hml, hown, hts⟩ (c_X0_lines l D cy h a N L A) kg_RL_162 ⟨rfl, rfl⟩ (by decide +kernel) ⟨Nat.le_of_ble_eq_true rfl, Nat.le_of_ble_eq_true rfl⟩ (kr_pw0 hP hK) rfl hl.1 rfl (Nat.le_of_ble_eq_true rfl) dL_law_1294 ⟨show cells ≤ 601024 by omega, show slots ≤ 7293034 by omega⟩ (fun r9 e9 => ?_)
  refine lv_aload_n hx hb dL_law_1297 rfl (lv_at hl 2 rfl) ?_
  refine kr_lawX (n := 0) (As := []) (rest := [.int r9]) ⟨hx, hb, hml, hown, hts⟩ (c_X1_lines l D cy h' a' th N L A H.size) kg_RL_165 ⟨rfl, rfl⟩ (by decide +kernel) ⟨Nat.le_of_ble_eq_true rfl, Nat.le_of_ble_eq_true rfl⟩ hP hK hD hS rfl hl.1 rfl (Nat.le_of_ble_eq_true rfl) dL_law_1298 ⟨show cells + 0 ≤ 601024 by omega, show slots + 0 ≤ 7293034 by omega⟩ (fun r8 H locs e8 hP hD hS => ?_)
  refine lv_icmp_eq (tgt := 1889) hx hb dL_law_1301 (by decide) (fun c1301 => ?_) (fun c1301 => absurd (e9.trans e8.symm) c1301)
  refine W.widen (k := cells + 16) (n := slots + 112) (by omega) (by omega) ?_
  exact kT _ _ _ _ _ _ _ ls hw hwe hP hD hS (lv_sub hl [0, 1, 2, 3, 4] rfl)
theorem kgh_yL_ropesOf : GoodIn kr_all (va_wsS RL 166 yL_ropesOf (Cond.codeWith yL_ropesOf cL_ropesOf 4 (some .int) [(0, 9, 12, 13)] :: kr_all)) := kr_gW kq_495 kq_496 kq_47 kq_497
theorem kg_RL_168 : GoodIn kr_all (wsV RL 168 RX1 yX1_ropesOf (Cond.code yX1_ropesOf cX1_ropesOf 2 (some .int) :: kr_all)) := kr_gV kq_735 kq_736 kq_737 kq_49 kq_738
set_option maxHeartbeats 4000000 in
set_option maxRecDepth 100000 in
theorem law_c_ropesOf {p : Program} {l : Launch} {e : Env} {s : State} {m : MethodId} {below : List Frame} {meth : Method} {c : Code} {Q : State → Prop} {b Ls : Nat} {xs : Nat → Int32} {D : va_G} {cy cl : ClassId} {h h' o i N L : Nat} {a a' : Nat → Nat} {A : Nat → Nat → Int32} {th : Int32} {O : Nat → Int64} {H : Heap} {locs : List Loc} {cells slots : Nat} {ls : Array Slot} (C0 : lw_At p s m meth c b Ls xs) (hL9 : Ls ≤ 2048) (hl0 : l.stackTraces = false) (hT : kr_T s) (hw : kr_wf N L A) (hwe : kr_we N A) (hK : va_K D vwCl [(cy, .int), (cl, .long)] s) (hP : va_P D vwCl (kr_WW cy cl h a h' a' o N L A th N L A O) H) (hD : va_D (kr_new s) (kr_WW cy cl h a h' a' o N L A th N L A O)) (hS : va_S (kr_new s) s.heap H locs) (hi : i + 4 ≤ Ls) (hl : lv_has ls 9 [(0, .ref b), (1, .ref h), (2, .ref h'), (3, .ref o), (4, .int (nI i))]) (hf : cells + 16 ≤ 601024 ∧ slots + 112 ≤ 7293034) (kT : ∀ (N L : Nat) (A : Nat → Nat → Int32) (th : Int32) (O : Nat → Int64) (H : Heap) (locs : List Loc) (ls : Array Slot), kr_wf N L A → kr_we N A → va_P D vwCl (kr_WW cy cl h a h' a' o N L A th N L A O) H → va_D (kr_new s) (kr_WW cy cl h a h' a' o N L A th N L A O) → va_S (kr_new s) s.heap H locs → lv_has ls 9 [(0, .ref b), (1, .ref h), (2, .ref h'), (3, .ref o), (4, .int (nI i))] → W p l e room_1 s m #[Value.ref b] below meth c H locs (cells + 16) (slots + 112) Q (F0 m 1889 ls [])) : W p l e room_1 s m #[Value.ref b] below meth c H locs cells slots Q (F0 m 1306 ls []) := by
  obtain ⟨hx, hb, hr, hml, hown, hts0, hX, hbl, hlocks, hgv⟩ := id C0
  have hts : ∀ w ∈ kr_all, w.before #[Value.ref b] s = true := fun w hw => hts0 w (List.mem_filter.mp hw).1
  have hown : s.vm.findClass RL = some m.cls := hown
  have hb : c.code = cL_law := hb
  have hbA : ¬ (kr_new s) b := Nat.not_le.mpr hbl
  obtain ⟨x, ex1⟩ : ∃ v, v = xs (nI (i + 1)).toNatClampNeg := ⟨_, rfl⟩
  refine lv_aload_n hx hb dL_law_1306 rfl (lv_at hl 1 rfl) ?_
  refine lv_aload_n hx hb dL_law_1307 rfl (lv_at hl 0 rfl) ?_
  refine lv_iload hx hb dL_law_1308 (lv_at hl 4 rfl) ?_
  refine lv_iconst (v := 1) hx hb dL_law_1310 (by decide) ?_
  refine kr_iaddN hx hb i 1 dL_law_1311 ?_
  refine va_sld hx hb hX hbl hbA hS (vp_in_nI (by omega) (by omega)) dL_law_1312 ?_
  rw [← ex1]
  refine lv_aload_n hx hb dL_law_1313 rfl (lv_at hl 3 rfl) ?_
  refine kr_lawH (n := 3) (As := [.ref h, .int x, .ref o]) (rest := []) ⟨hx, hb, hml, hown, hts⟩ (h_L_ropesOf l hl0 D cy cl h a o N L A O H.size x hw) kgh_yL_ropesOf ⟨rfl, rfl⟩ (by decide +kernel) ⟨Nat.le_of_ble_eq_true rfl, Nat.le_of_ble_eq_true rfl⟩ hP hK hD hS hT rfl hl.1 rfl (Nat.le_of_ble_eq_true rfl) dL_law_1314 ⟨show cells + 1 ≤ 601024 by omega, show slots + 6 ≤ 7293034 by omega⟩ (fun r9 O2 H locs e9 hP hD hS => ?_)
  obtain ⟨e9, hO⟩ := e9
  refine lv_istore (lv' := [(5, .int r9), (0, .ref b), (1, .ref h), (2, .ref h'), (3, .ref o), (4, .int (nI i))]) hx hb dL_law_1317 hl (by decide) rfl (fun ls hl => ?_)
  refine lv_aload_n hx hb dL_law_1319 rfl (lv_at hl 3 rfl) ?_
  refine lv_aload_n hx hb dL_law_1320 rfl (lv_at hl 1 rfl) ?_
  refine lv_iload hx hb dL_law_1321 (lv_at hl 5 rfl) ?_
  refine lv_iconst (v := 1) hx hb dL_law_1323 (by decide) ?_
  refine kr_iaddN hx hb i 1 dL_law_1324 ?_
  refine va_sld hx hb hX hbl hbA hS (vp_in_nI (by omega) (by omega)) dL_law_1325 ?_
  rw [← ex1]
  refine kr_lawX (n := 1) (As := [.int x]) (rest := []) ⟨hx, hb, hml, hown, hts⟩ (c_X1_ropesOf l D cy h' a' th N L A H.size x hw) kg_RL_168 ⟨rfl, rfl⟩ (by decide +kernel) ⟨Nat.le_of_ble_eq_true rfl, Nat.le_of_ble_eq_true rfl⟩ hP hK hD hS rfl hl.1 rfl (Nat.le_of_ble_eq_true rfl) dL_law_1326 ⟨show cells + 1 ≤ 601024 by omega, show slots + 6 ≤ 7293034 by omega⟩ (fun r8 H locs e8 hP hD hS => ?_)
  refine lv_istore (lv' := [(6, .int r8), (5, .int r9), (0, .ref b), (1, .ref h), (2, .ref h'), (3, .ref o), (4, .int (nI i))]) hx hb dL_law_1329 hl (by decide) rfl (fun ls hl => ?_)
  refine lv_aload_n hx hb dL_law_1331 rfl (lv_at hl 4 rfl) ?_
  refine kr_vI (n := 0) (As := []) (rest := []) ⟨hx, hb, hml, hown, hts⟩ (c_X1_thrown l D cy h' a' _ _ _ _) kg_RL_104 ⟨rfl, rfl⟩ (by decide +kernel) ⟨Nat.le_of_ble_eq_true rfl, Nat.le_of_ble_eq_true rfl⟩ (kr_pw1 hP hK) rfl hl.1 rfl (Nat.le_of_ble_eq_true rfl) dL_law_1332 ⟨show cells + 1 ≤ 601024 by omega, show slots + 6 ≤ 7293034 by omega⟩ (fun r7 e7 => ?_)
  refine lv_iload hx hb dL_law_1335 (lv_at hl 1 rfl) ?_
  refine lv_icmp_eq (tgt := 1342) hx hb dL_law_1337 (by decide) (fun c1337 => ?_) (fun c1337 => absurd (e7.trans e9.symm) c1337)
  refine lv_iload hx hb dL_law_1342 (lv_at hl 1 rfl) ?_
  refine lv_if_ne (tgt := 1359) hx hb dL_law_1344 (by decide) (fun c1344 => ?_) (fun c1344 => ?_)
  · refine lv_goto (tgt := 1889) hx hb dL_law_1359 (by decide) ?_
    refine W.widen (k := cells + 16) (n := slots + 112) (by omega) (by omega) ?_
    exact kT _ _ _ _ _ _ _ ls hw hwe hP hD hS (lv_sub hl [2, 3, 4, 5, 6] rfl)
  · have hc : kr_cd (kr_i L x) True True = 0 := e9.symm.trans c1344
    have hO2 : O2 (0 : Int32).toNatClampNeg = Int32.toInt64 r8 := (hO hc).trans (congrArg Int32.toInt64 (e8 hc).symm)
    refine lv_aload_n hx hb dL_law_1347 rfl (lv_at hl 5 rfl) ?_
    refine lv_iconst (v := 0) hx hb dL_law_1348 (by decide) ?_
    refine va_lald hx hb hK hP 18 1 rfl rfl (show ¬ ((0 : Int32) < 0 ∨ 1 ≤ (0 : Int32).toNatClampNeg) by decide) dL_law_1349 ?_
    rw [hO2]
    refine lv_iload hx hb dL_law_1350 (lv_at hl 0 rfl) ?_
    refine lv_i2l (v := r8.toInt64) hx hb dL_law_1352 rfl ?_
    refine W.lcmp hx hb dL_law_1353 ?_
    refine lv_if_eq (tgt := 1359) hx hb dL_law_1354 (by decide) (fun c1354 => ?_) (fun c1354 => absurd (kr_lg _) c1354)
    refine lv_goto (tgt := 1889) hx hb dL_law_1359 (by decide) ?_
    refine W.widen (k := cells + 16) (n := slots + 112) (by omega) (by omega) ?_
    exact kT _ _ _ _ _ _ _ ls hw hwe hP hD hS (lv_sub hl [2, 3, 4, 5, 6] rfl)
theorem kgh_yL_knotOf : GoodIn kr_all (va_wsS RL 169 yL_knotOf (Cond.codeWith yL_knotOf cL_knotOf 5 (some .int) [(0, 10, 13, 13)] :: kr_all)) := kr_gW kq_499 kq_500 kq_47 kq_501
theorem kg_RL_171 : GoodIn kr_all (wsV RL 171 RX1 yX1_knotOf (Cond.code yX1_knotOf cX1_knotOf 3 (some .int) :: kr_all)) := kr_gV kq_739 kq_740 kq_741 kq_49 kq_742
set_option maxHeartbeats 4000000 in
set_option maxRecDepth 100000 in
theorem law_c_knotOf {p : Program} {l : Launch} {e : Env} {s : State} {m : MethodId} {below : List Frame} {meth : Method} {c : Code} {Q : State → Prop} {b Ls : Nat} {xs : Nat → Int32} {D : va_G} {cy cl : ClassId} {h h' o i N L : Nat} {a a' : Nat → Nat} {A : Nat → Nat → Int32} {th : Int32} {O : Nat → Int64} {H : Heap} {locs : List Loc} {cells slots : Nat} {ls : Array Slot} (C0 : lw_At p s m meth c b Ls xs) (hL9 : Ls ≤ 2048) (hl0 : l.stackTraces = false) (hT : kr_T s) (hw : kr_wf N L A) (hwe : kr_we N A) (hK : va_K D vwCl [(cy, .int), (cl, .long)] s) (hP : va_P D vwCl (kr_WW cy cl h a h' a' o N L A th N L A O) H) (hD : va_D (kr_new s) (kr_WW cy cl h a h' a' o N L A th N L A O)) (hS : va_S (kr_new s) s.heap H locs) (hi : i + 4 ≤ Ls) (hl : lv_has ls 9 [(0, .ref b), (1, .ref h), (2, .ref h'), (3, .ref o), (4, .int (nI i))]) (hf : cells + 16 ≤ 601024 ∧ slots + 112 ≤ 7293034) (kT : ∀ (N L : Nat) (A : Nat → Nat → Int32) (th : Int32) (O : Nat → Int64) (H : Heap) (locs : List Loc) (ls : Array Slot), kr_wf N L A → kr_we N A → va_P D vwCl (kr_WW cy cl h a h' a' o N L A th N L A O) H → va_D (kr_new s) (kr_WW cy cl h a h' a' o N L A th N L A O) → va_S (kr_new s) s.heap H locs → lv_has ls 9 [(0, .ref b), (1, .ref h), (2, .ref h'), (3, .ref o), (4, .int (nI i))] → W p l e room_1 s m #[Value.ref b] below meth c H locs (cells + 16) (slots + 112) Q (F0 m 1889 ls [])) : W p l e room_1 s m #[Value.ref b] below meth c H locs cells slots Q (F0 m 1362 ls []) := by
  obtain ⟨hx, hb, hr, hml, hown, hts0, hX, hbl, hlocks, hgv⟩ := id C0
  have hts : ∀ w ∈ kr_all, w.before #[Value.ref b] s = true := fun w hw => hts0 w (List.mem_filter.mp hw).1
  have hown : s.vm.findClass RL = some m.cls := hown
  have hb : c.code = cL_law := hb
  have hbA : ¬ (kr_new s) b := Nat.not_le.mpr hbl
  obtain ⟨x, ex1⟩ : ∃ v, v = xs (nI (i + 1)).toNatClampNeg := ⟨_, rfl⟩
  obtain ⟨y, ex2⟩ : ∃ v, v = xs (nI (i + 2)).toNatClampNeg := ⟨_, rfl⟩
  refine lv_aload_n hx hb dL_law_1362 rfl (lv_at hl 1 rfl) ?_
  refine lv_aload_n hx hb dL_law_1363 rfl (lv_at hl 0 rfl) ?_
  refine lv_iload hx hb dL_law_1364 (lv_at hl 4 rfl) ?_
  refine lv_iconst (v := 1) hx hb dL_law_1366 (by decide) ?_
  refine kr_iaddN hx hb i 1 dL_law_1367 ?_
  refine va_sld hx hb hX hbl hbA hS (vp_in_nI (by omega) (by omega)) dL_law_1368 ?_
  rw [← ex1]
  refine lv_aload_n hx hb dL_law_1369 rfl (lv_at hl 0 rfl) ?_
  refine lv_iload hx hb dL_law_1370 (lv_at hl 4 rfl) ?_
  refine lv_iconst (v := 2) hx hb dL_law_1372 (by decide) ?_
  refine kr_iaddN hx hb i 2 dL_law_1373 ?_
  refine va_sld hx hb hX hbl hbA hS (vp_in_nI (by omega) (by omega)) dL_law_1374 ?_
  rw [← ex2]
  refine lv_aload_n hx hb dL_law_1375 rfl (lv_at hl 3 rfl) ?_
  refine kr_lawH (n := 4) (As := [.ref h, .int x, .int y, .ref o]) (rest := []) ⟨hx, hb, hml, hown, hts⟩ (h_L_knotOf l hl0 D cy cl h a o N L A O H.size x y hw) kgh_yL_knotOf ⟨rfl, rfl⟩ (by decide +kernel) ⟨Nat.le_of_ble_eq_true rfl, Nat.le_of_ble_eq_true rfl⟩ hP hK hD hS hT rfl hl.1 rfl (Nat.le_of_ble_eq_true rfl) dL_law_1376 ⟨show cells + 1 ≤ 601024 by omega, show slots + 6 ≤ 7293034 by omega⟩ (fun r9 O2 H locs e9 hP hD hS => ?_)
  obtain ⟨e9, hO⟩ := e9
  refine lv_istore (lv' := [(5, .int r9), (0, .ref b), (1, .ref h), (2, .ref h'), (3, .ref o), (4, .int (nI i))]) hx hb dL_law_1379 hl (by decide) rfl (fun ls hl => ?_)
  refine lv_aload_n hx hb dL_law_1381 rfl (lv_at hl 3 rfl) ?_
  refine lv_aload_n hx hb dL_law_1382 rfl (lv_at hl 1 rfl) ?_
  refine lv_iload hx hb dL_law_1383 (lv_at hl 5 rfl) ?_
  refine lv_iconst (v := 1) hx hb dL_law_1385 (by decide) ?_
  refine kr_iaddN hx hb i 1 dL_law_1386 ?_
  refine va_sld hx hb hX hbl hbA hS (vp_in_nI (by omega) (by omega)) dL_law_1387 ?_
  rw [← ex1]
  refine lv_aload_n hx hb dL_law_1388 rfl (lv_at hl 1 rfl) ?_
  refine lv_iload hx hb dL_law_1389 (lv_at hl 5 rfl) ?_
  refine lv_iconst (v := 2) hx hb dL_law_1391 (by decide) ?_
  refine kr_iaddN hx hb i 2 dL_law_1392 ?_
  refine va_sld hx hb hX hbl hbA hS (vp_in_nI (by omega) (by omega)) dL_law_1393 ?_
  rw [← ex2]
  refine kr_lawX (n := 2) (As := [.int x, .int y]) (rest := []) ⟨hx, hb, hml, hown, hts⟩ (c_X1_knotOf l D cy h' a' th N L A H.size x y hw) kg_RL_171 ⟨rfl, rfl⟩ (by decide +kernel) ⟨Nat.le_of_ble_eq_true rfl, Nat.le_of_ble_eq_true rfl⟩ hP hK hD hS rfl hl.1 rfl (Nat.le_of_ble_eq_true rfl) dL_law_1394 ⟨show cells + 1 ≤ 601024 by omega, show slots + 6 ≤ 7293034 by omega⟩ (fun r8 H locs e8 hP hD hS => ?_)
  refine lv_istore (lv' := [(6, .int r8), (5, .int r9), (0, .ref b), (1, .ref h), (2, .ref h'), (3, .ref o), (4, .int (nI i))]) hx hb dL_law_1397 hl (by decide) rfl (fun ls hl => ?_)
  refine lv_aload_n hx hb dL_law_1399 rfl (lv_at hl 4 rfl) ?_
  refine kr_vI (n := 0) (As := []) (rest := []) ⟨hx, hb, hml, hown, hts⟩ (c_X1_thrown l D cy h' a' _ _ _ _) kg_RL_104 ⟨rfl, rfl⟩ (by decide +kernel) ⟨Nat.le_of_ble_eq_true rfl, Nat.le_of_ble_eq_true rfl⟩ (kr_pw1 hP hK) rfl hl.1 rfl (Nat.le_of_ble_eq_true rfl) dL_law_1400 ⟨show cells + 1 ≤ 601024 by omega, show slots + 6 ≤ 7293034 by omega⟩ (fun r7 e7 => ?_)
  refine lv_iload hx hb dL_law_1403 (lv_at hl 1 rfl) ?_
  refine lv_icmp_eq (tgt := 1410) hx hb dL_law_1405 (by decide) (fun c1405 => ?_) (fun c1405 => absurd (e7.trans e9.symm) c1405)
  refine lv_iload hx hb dL_law_1410 (lv_at hl 1 rfl) ?_
  refine lv_if_ne (tgt := 1427) hx hb dL_law_1412 (by decide) (fun c1412 => ?_) (fun c1412 => ?_)
  · refine lv_goto (tgt := 1889) hx hb dL_law_1427 (by decide) ?_
    refine W.widen (k := cells + 16) (n := slots + 112) (by omega) (by omega) ?_
    exact kT _ _ _ _ _ _ _ ls hw hwe hP hD hS (lv_sub hl [2, 3, 4, 5, 6] rfl)
  · have hc : kr_cd (kr_q L A x y) True True = 0 := e9.symm.trans c1412
    have hO2 : O2 (0 : Int32).toNatClampNeg = Int32.toInt64 r8 := (hO hc).trans (congrArg Int32.toInt64 (e8 hc).symm)
    refine lv_aload_n hx hb dL_law_1415 rfl (lv_at hl 5 rfl) ?_
    refine lv_iconst (v := 0) hx hb dL_law_1416 (by decide) ?_
    refine va_lald hx hb hK hP 18 1 rfl rfl (show ¬ ((0 : Int32) < 0 ∨ 1 ≤ (0 : Int32).toNatClampNeg) by decide) dL_law_1417 ?_
    rw [hO2]
    refine lv_iload hx hb dL_law_1418 (lv_at hl 0 rfl) ?_
    refine lv_i2l (v := r8.toInt64) hx hb dL_law_1420 rfl ?_
    refine W.lcmp hx hb dL_law_1421 ?_
    refine lv_if_eq (tgt := 1427) hx hb dL_law_1422 (by decide) (fun c1422 => ?_) (fun c1422 => absurd (kr_lg _) c1422)
    refine lv_goto (tgt := 1889) hx hb dL_law_1427 (by decide) ?_
    refine W.widen (k := cells + 16) (n := slots + 112) (by omega) (by omega) ?_
    exact kT _ _ _ _ _ _ _ ls hw hwe hP hD hS (lv_sub hl [2, 3, 4, 5, 6] rfl)
theorem kgh_yL_strengthAt : GoodIn kr_all (va_wsS RL 172 yL_strengthAt (Cond.codeWith yL_strengthAt cL_strengthAt 5 (some .int) [(0, 10, 13, 13)] :: kr_all)) := kr_gW kq_503 kq_504 kq_47 kq_505
theorem kg_RL_174 : GoodIn kr_all (wsV RL 174 RX1 yX1_strengthAt (Cond.code yX1_strengthAt cX1_strengthAt 3 (some .int) :: kr_all)) := kr_gV kq_743 kq_744 kq_745 kq_49 kq_746
set_option maxHeartbeats 4000000 in
set_option maxRecDepth 100000 in
theorem law_c_strengthAt {p : Program} {l : Launch} {e : Env} {s : State} {m : MethodId} {below : List Frame} {meth : Method} {c : Code} {Q : State → Prop} {b Ls : Nat} {xs : Nat → Int32} {D : va_G} {cy cl : ClassId} {h h' o i N L : Nat} {a a' : Nat → Nat} {A : Nat → Nat → Int32} {th : Int32} {O : Nat → Int64} {H : Heap} {locs : List Loc} {cells slots : Nat} {ls : Array Slot} (C0 : lw_At p s m meth c b Ls xs) (hL9 : Ls ≤ 2048) (hl0 : l.stackTraces = false) (hT : kr_T s) (hw : kr_wf N L A) (hwe : kr_we N A) (hK : va_K D vwCl [(cy, .int), (cl, .long)] s) (hP : va_P D vwCl (kr_WW cy cl h a h' a' o N L A th N L A O) H) (hD : va_D (kr_new s) (kr_WW cy cl h a h' a' o N L A th N L A O)) (hS : va_S (kr_new s) s.heap H locs) (hi : i + 4 ≤ Ls) (hl : lv_has ls 9 [(0, .ref b), (1, .ref h), (2, .ref h'), (3, .ref o), (4, .int (nI i))]) (hf : cells + 16 ≤ 601024 ∧ slots + 112 ≤ 7293034) (kT : ∀ (N L : Nat) (A : Nat → Nat → Int32) (th : Int32) (O : Nat → Int64) (H : Heap) (locs : List Loc) (ls : Array Slot), kr_wf N L A → kr_we N A → va_P D vwCl (kr_WW cy cl h a h' a' o N L A th N L A O) H → va_D (kr_new s) (kr_WW cy cl h a h' a' o N L A th N L A O) → va_S (kr_new s) s.heap H locs → lv_has ls 9 [(0, .ref b), (1, .ref h), (2, .ref h'), (3, .ref o), (4, .int (nI i))] → W p l e room_1 s m #[Value.ref b] below meth c H locs (cells + 16) (slots + 112) Q (F0 m 1889 ls [])) : W p l e room_1 s m #[Value.ref b] below meth c H locs cells slots Q (F0 m 1430 ls []) := by
  obtain ⟨hx, hb, hr, hml, hown, hts0, hX, hbl, hlocks, hgv⟩ := id C0
  have hts : ∀ w ∈ kr_all, w.before #[Value.ref b] s = true := fun w hw => hts0 w (List.mem_filter.mp hw).1
  have hown : s.vm.findClass RL = some m.cls := hown
  have hb : c.code = cL_law := hb
  have hbA : ¬ (kr_new s) b := Nat.not_le.mpr hbl
  obtain ⟨x, ex1⟩ : ∃ v, v = xs (nI (i + 1)).toNatClampNeg := ⟨_, rfl⟩
  obtain ⟨y, ex2⟩ : ∃ v, v = xs (nI (i + 2)).toNatClampNeg := ⟨_, rfl⟩
  refine lv_aload_n hx hb dL_law_1430 rfl (lv_at hl 1 rfl) ?_
  refine lv_aload_n hx hb dL_law_1431 rfl (lv_at hl 0 rfl) ?_
  refine lv_iload hx hb dL_law_1432 (lv_at hl 4 rfl) ?_
  refine lv_iconst (v := 1) hx hb dL_law_1434 (by decide) ?_
  refine kr_iaddN hx hb i 1 dL_law_1435 ?_
  refine va_sld hx hb hX hbl hbA hS (vp_in_nI (by omega) (by omega)) dL_law_1436 ?_
  rw [← ex1]
  refine lv_aload_n hx hb dL_law_1437 rfl (lv_at hl 0 rfl) ?_
  refine lv_iload hx hb dL_law_1438 (lv_at hl 4 rfl) ?_
  refine lv_iconst (v := 2) hx hb dL_law_1440 (by decide) ?_
  refine kr_iaddN hx hb i 2 dL_law_1441 ?_
  refine va_sld hx hb hX hbl hbA hS (vp_in_nI (by omega) (by omega)) dL_law_1442 ?_
  rw [← ex2]
  refine lv_aload_n hx hb dL_law_1443 rfl (lv_at hl 3 rfl) ?_
  refine kr_lawH (n := 4) (As := [.ref h, .int x, .int y, .ref o]) (rest := []) ⟨hx, hb, hml, hown, hts⟩ (h_L_strengthAt l hl0 D cy cl h a o N L A O H.size x y hw) kgh_yL_strengthAt ⟨rfl, rfl⟩ (by decide +kernel) ⟨Nat.le_of_ble_eq_true rfl, Nat.le_of_ble_eq_true rfl⟩ hP hK hD hS hT rfl hl.1 rfl (Nat.le_of_ble_eq_true rfl) dL_law_1444 ⟨show cells + 1 ≤ 601024 by omega, show slots + 6 ≤ 7293034 by omega⟩ (fun r9 O2 H locs e9 hP hD hS => ?_)
  obtain ⟨e9, hO⟩ := e9
  refine lv_istore (lv' := [(5, .int r9), (0, .ref b), (1, .ref h), (2, .ref h'), (3, .ref o), (4, .int (nI i))]) hx hb dL_law_1447 hl (by decide) rfl (fun ls hl => ?_)
  refine lv_aload_n hx hb dL_law_1449 rfl (lv_at hl 3 rfl) ?_
  refine lv_aload_n hx hb dL_law_1450 rfl (lv_at hl 1 rfl) ?_
  refine lv_iload hx hb dL_law_1451 (lv_at hl 5 rfl) ?_
  refine lv_iconst (v := 1) hx hb dL_law_1453 (by decide) ?_
  refine kr_iaddN hx hb i 1 dL_law_1454 ?_
  refine va_sld hx hb hX hbl hbA hS (vp_in_nI (by omega) (by omega)) dL_law_1455 ?_
  rw [← ex1]
  refine lv_aload_n hx hb dL_law_1456 rfl (lv_at hl 1 rfl) ?_
  refine lv_iload hx hb dL_law_1457 (lv_at hl 5 rfl) ?_
  refine lv_iconst (v := 2) hx hb dL_law_1459 (by decide) ?_
  refine kr_iaddN hx hb i 2 dL_law_1460 ?_
  refine va_sld hx hb hX hbl hbA hS (vp_in_nI (by omega) (by omega)) dL_law_1461 ?_
  rw [← ex2]
  refine kr_lawX (n := 2) (As := [.int x, .int y]) (rest := []) ⟨hx, hb, hml, hown, hts⟩ (c_X1_strengthAt l D cy h' a' th N L A H.size x y hw) kg_RL_174 ⟨rfl, rfl⟩ (by decide +kernel) ⟨Nat.le_of_ble_eq_true rfl, Nat.le_of_ble_eq_true rfl⟩ hP hK hD hS rfl hl.1 rfl (Nat.le_of_ble_eq_true rfl) dL_law_1462 ⟨show cells + 1 ≤ 601024 by omega, show slots + 6 ≤ 7293034 by omega⟩ (fun r8 H locs e8 hP hD hS => ?_)
  refine lv_istore (lv' := [(6, .int r8), (5, .int r9), (0, .ref b), (1, .ref h), (2, .ref h'), (3, .ref o), (4, .int (nI i))]) hx hb dL_law_1465 hl (by decide) rfl (fun ls hl => ?_)
  refine lv_aload_n hx hb dL_law_1467 rfl (lv_at hl 4 rfl) ?_
  refine kr_vI (n := 0) (As := []) (rest := []) ⟨hx, hb, hml, hown, hts⟩ (c_X1_thrown l D cy h' a' _ _ _ _) kg_RL_104 ⟨rfl, rfl⟩ (by decide +kernel) ⟨Nat.le_of_ble_eq_true rfl, Nat.le_of_ble_eq_true rfl⟩ (kr_pw1 hP hK) rfl hl.1 rfl (Nat.le_of_ble_eq_true rfl) dL_law_1468 ⟨show cells + 1 ≤ 601024 by omega, show slots + 6 ≤ 7293034 by omega⟩ (fun r7 e7 => ?_)
  refine lv_iload hx hb dL_law_1471 (lv_at hl 1 rfl) ?_
  refine lv_icmp_eq (tgt := 1478) hx hb dL_law_1473 (by decide) (fun c1473 => ?_) (fun c1473 => absurd (e7.trans e9.symm) c1473)
  refine lv_iload hx hb dL_law_1478 (lv_at hl 1 rfl) ?_
  refine lv_if_ne (tgt := 1495) hx hb dL_law_1480 (by decide) (fun c1480 => ?_) (fun c1480 => ?_)
  · refine lv_goto (tgt := 1889) hx hb dL_law_1495 (by decide) ?_
    refine W.widen (k := cells + 16) (n := slots + 112) (by omega) (by omega) ?_
    exact kT _ _ _ _ _ _ _ ls hw hwe hP hD hS (lv_sub hl [2, 3, 4, 5, 6] rfl)
  · have hc : kr_cd (kr_q L A x y) True True = 0 := e9.symm.trans c1480
    have hO2 : O2 (0 : Int32).toNatClampNeg = Int32.toInt64 r8 := (hO hc).trans (congrArg Int32.toInt64 (e8 hc).symm)
    refine lv_aload_n hx hb dL_law_1483 rfl (lv_at hl 5 rfl) ?_
    refine lv_iconst (v := 0) hx hb dL_law_1484 (by decide) ?_
    refine va_lald hx hb hK hP 18 1 rfl rfl (show ¬ ((0 : Int32) < 0 ∨ 1 ≤ (0 : Int32).toNatClampNeg) by decide) dL_law_1485 ?_
    rw [hO2]
    refine lv_iload hx hb dL_law_1486 (lv_at hl 0 rfl) ?_
    refine lv_i2l (v := r8.toInt64) hx hb dL_law_1488 rfl ?_
    refine W.lcmp hx hb dL_law_1489 ?_
    refine lv_if_eq (tgt := 1495) hx hb dL_law_1490 (by decide) (fun c1490 => ?_) (fun c1490 => absurd (kr_lg _) c1490)
    refine lv_goto (tgt := 1889) hx hb dL_law_1495 (by decide) ?_
    refine W.widen (k := cells + 16) (n := slots + 112) (by omega) (by omega) ?_
    exact kT _ _ _ _ _ _ _ ls hw hwe hP hD hS (lv_sub hl [2, 3, 4, 5, 6] rfl)
theorem kgh_yL_weakestPlace : GoodIn kr_all (va_wsS RL 175 yL_weakestPlace (Cond.codeWith yL_weakestPlace cL_weakestPlace 4 (some .int) [(0, 9, 12, 13)] :: kr_all)) := kr_gW kq_507 kq_508 kq_47 kq_509
theorem kg_RL_177 : GoodIn kr_all (wsV RL 177 RX1 yX1_weakestPlace (Cond.code yX1_weakestPlace cX1_weakestPlace 2 (some .int) :: kr_all)) := kr_gV kq_751 kq_752 kq_753 kq_49 kq_754
set_option maxHeartbeats 4000000 in
set_option maxRecDepth 100000 in
theorem law_c_weakestPlace {p : Program} {l : Launch} {e : Env} {s : State} {m : MethodId} {below : List Frame} {meth : Method} {c : Code} {Q : State → Prop} {b Ls : Nat} {xs : Nat → Int32} {D : va_G} {cy cl : ClassId} {h h' o i N L : Nat} {a a' : Nat → Nat} {A : Nat → Nat → Int32} {th : Int32} {O : Nat → Int64} {H : Heap} {locs : List Loc} {cells slots : Nat} {ls : Array Slot} (C0 : lw_At p s m meth c b Ls xs) (hL9 : Ls ≤ 2048) (hl0 : l.stackTraces = false) (hT : kr_T s) (hw : kr_wf N L A) (hwe : kr_we N A) (hK : va_K D vwCl [(cy, .int), (cl, .long)] s) (hP : va_P D vwCl (kr_WW cy cl h a h' a' o N L A th N L A O) H) (hD : va_D (kr_new s) (kr_WW cy cl h a h' a' o N L A th N L A O)) (hS : va_S (kr_new s) s.heap H locs) (hi : i + 4 ≤ Ls) (hl : lv_has ls 9 [(0, .ref b), (1, .ref h), (2, .ref h'), (3, .ref o), (4, .int (nI i))]) (hf : cells + 16 ≤ 601024 ∧ slots + 112 ≤ 7293034) (kT : ∀ (N L : Nat) (A : Nat → Nat → Int32) (th : Int32) (O : Nat → Int64) (H : Heap) (locs : List Loc) (ls : Array Slot), kr_wf N L A → kr_we N A → va_P D vwCl (kr_WW cy cl h a h' a' o N L A th N L A O) H → va_D (kr_new s) (kr_WW cy cl h a h' a' o N L A th N L A O) → va_S (kr_new s) s.heap H locs → lv_has ls 9 [(0, .ref b), (1, .ref h), (2, .ref h'), (3, .ref o), (4, .int (nI i))] → W p l e room_1 s m #[Value.ref b] below meth c H locs (cells + 16) (slots + 112) Q (F0 m 1889 ls [])) : W p l e room_1 s m #[Value.ref b] below meth c H locs cells slots Q (F0 m 1498 ls []) := by
  obtain ⟨hx, hb, hr, hml, hown, hts0, hX, hbl, hlocks, hgv⟩ := id C0
  have hts : ∀ w ∈ kr_all, w.before #[Value.ref b] s = true := fun w hw => hts0 w (List.mem_filter.mp hw).1
  have hown : s.vm.findClass RL = some m.cls := hown
  have hb : c.code = cL_law := hb
  have hbA : ¬ (kr_new s) b := Nat.not_le.mpr hbl
  obtain ⟨x, ex1⟩ : ∃ v, v = xs (nI (i + 1)).toNatClampNeg := ⟨_, rfl⟩
  refine lv_aload_n hx hb dL_law_1498 rfl (lv_at hl 1 rfl) ?_
  refine lv_aload_n hx hb dL_law_1499 rfl (lv_at hl 0 rfl) ?_
  refine lv_iload hx hb dL_law_1500 (lv_at hl 4 rfl) ?_
  refine lv_iconst (v := 1) hx hb dL_law_1502 (by decide) ?_
  refine kr_iaddN hx hb i 1 dL_law_1503 ?_
  refine va_sld hx hb hX hbl hbA hS (vp_in_nI (by omega) (by omega)) dL_law_1504 ?_
  rw [← ex1]
  refine lv_aload_n hx hb dL_law_1505 rfl (lv_at hl 3 rfl) ?_
  refine kr_lawH (n := 3) (As := [.ref h, .int x, .ref o]) (rest := []) ⟨hx, hb, hml, hown, hts⟩ (h_L_weakestPlace l hl0 D cy cl h a o N L A O H.size x hw) kgh_yL_weakestPlace ⟨rfl, rfl⟩ (by decide +kernel) ⟨Nat.le_of_ble_eq_true rfl, Nat.le_of_ble_eq_true rfl⟩ hP hK hD hS hT rfl hl.1 rfl (Nat.le_of_ble_eq_true rfl) dL_law_1506 ⟨show cells + 1 ≤ 601024 by omega, show slots + 6 ≤ 7293034 by omega⟩ (fun r9 O2 H locs e9 hP hD hS => ?_)
  obtain ⟨e9, hO⟩ := e9
  refine lv_istore (lv' := [(5, .int r9), (0, .ref b), (1, .ref h), (2, .ref h'), (3, .ref o), (4, .int (nI i))]) hx hb dL_law_1509 hl (by decide) rfl (fun ls hl => ?_)
  refine lv_aload_n hx hb dL_law_1511 rfl (lv_at hl 3 rfl) ?_
  refine lv_aload_n hx hb dL_law_1512 rfl (lv_at hl 1 rfl) ?_
  refine lv_iload hx hb dL_law_1513 (lv_at hl 5 rfl) ?_
  refine lv_iconst (v := 1) hx hb dL_law_1515 (by decide) ?_
  refine kr_iaddN hx hb i 1 dL_law_1516 ?_
  refine va_sld hx hb hX hbl hbA hS (vp_in_nI (by omega) (by omega)) dL_law_1517 ?_
  rw [← ex1]
  refine kr_lawX (n := 1) (As := [.int x]) (rest := []) ⟨hx, hb, hml, hown, hts⟩ (c_X1_weakestPlace l D cy h' a' th N L A H.size x hw) kg_RL_177 ⟨rfl, rfl⟩ (by decide +kernel) ⟨Nat.le_of_ble_eq_true rfl, Nat.le_of_ble_eq_true rfl⟩ hP hK hD hS rfl hl.1 rfl (Nat.le_of_ble_eq_true rfl) dL_law_1518 ⟨show cells + 1 ≤ 601024 by omega, show slots + 6 ≤ 7293034 by omega⟩ (fun r8 H locs e8 hP hD hS => ?_)
  refine lv_istore (lv' := [(6, .int r8), (5, .int r9), (0, .ref b), (1, .ref h), (2, .ref h'), (3, .ref o), (4, .int (nI i))]) hx hb dL_law_1521 hl (by decide) rfl (fun ls hl => ?_)
  refine lv_aload_n hx hb dL_law_1523 rfl (lv_at hl 4 rfl) ?_
  refine kr_vI (n := 0) (As := []) (rest := []) ⟨hx, hb, hml, hown, hts⟩ (c_X1_thrown l D cy h' a' _ _ _ _) kg_RL_104 ⟨rfl, rfl⟩ (by decide +kernel) ⟨Nat.le_of_ble_eq_true rfl, Nat.le_of_ble_eq_true rfl⟩ (kr_pw1 hP hK) rfl hl.1 rfl (Nat.le_of_ble_eq_true rfl) dL_law_1524 ⟨show cells + 1 ≤ 601024 by omega, show slots + 6 ≤ 7293034 by omega⟩ (fun r7 e7 => ?_)
  refine lv_iload hx hb dL_law_1527 (lv_at hl 1 rfl) ?_
  refine lv_icmp_eq (tgt := 1534) hx hb dL_law_1529 (by decide) (fun c1529 => ?_) (fun c1529 => absurd (e7.trans e9.symm) c1529)
  refine lv_iload hx hb dL_law_1534 (lv_at hl 1 rfl) ?_
  refine lv_if_ne (tgt := 1551) hx hb dL_law_1536 (by decide) (fun c1536 => ?_) (fun c1536 => ?_)
  · refine lv_goto (tgt := 1889) hx hb dL_law_1551 (by decide) ?_
    refine W.widen (k := cells + 16) (n := slots + 112) (by omega) (by omega) ?_
    exact kT _ _ _ _ _ _ _ ls hw hwe hP hD hS (lv_sub hl [2, 3, 4, 5, 6] rfl)
  · have hc : kr_cd (kr_i L x) True True = 0 := e9.symm.trans c1536
    have hO2 : O2 (0 : Int32).toNatClampNeg = Int32.toInt64 r8 := (hO hc).trans (congrArg Int32.toInt64 (e8 hc).symm)
    refine lv_aload_n hx hb dL_law_1539 rfl (lv_at hl 5 rfl) ?_
    refine lv_iconst (v := 0) hx hb dL_law_1540 (by decide) ?_
    refine va_lald hx hb hK hP 18 1 rfl rfl (show ¬ ((0 : Int32) < 0 ∨ 1 ≤ (0 : Int32).toNatClampNeg) by decide) dL_law_1541 ?_
    rw [hO2]
    refine lv_iload hx hb dL_law_1542 (lv_at hl 0 rfl) ?_
    refine lv_i2l (v := r8.toInt64) hx hb dL_law_1544 rfl ?_
    refine W.lcmp hx hb dL_law_1545 ?_
    refine lv_if_eq (tgt := 1551) hx hb dL_law_1546 (by decide) (fun c1546 => ?_) (fun c1546 => absurd (kr_lg _) c1546)
    refine lv_goto (tgt := 1889) hx hb dL_law_1551 (by decide) ?_
    refine W.widen (k := cells + 16) (n := slots + 112) (by omega) (by omega) ?_
    exact kT _ _ _ _ _ _ _ ls hw hwe hP hD hS (lv_sub hl [2, 3, 4, 5, 6] rfl)
theorem kgh_yL_holds : GoodIn kr_all (va_wsS RL 178 yL_holds (Cond.codeWith yL_holds cL_holds 5 (some .int) [(0, 17, 20, 13), (0, 17, 24, 15)] :: kr_all)) := kr_gW kq_511 kq_512 kq_47 kq_513
theorem kg_RL_180 : GoodIn kr_all (wsV RL 180 RX1 yX1_holds (Cond.code yX1_holds cX1_holds 3 (some .boolean) :: kr_all)) := kr_gV kq_759 kq_760 kq_761 kq_49 kq_762
set_option maxHeartbeats 4000000 in
set_option maxRecDepth 100000 in
theorem law_c_holds {p : Program} {l : Launch} {e : Env} {s : State} {m : MethodId} {below : List Frame} {meth : Method} {c : Code} {Q : State → Prop} {b Ls : Nat} {xs : Nat → Int32} {D : va_G} {cy cl : ClassId} {h h' o i N L : Nat} {a a' : Nat → Nat} {A : Nat → Nat → Int32} {th : Int32} {O : Nat → Int64} {H : Heap} {locs : List Loc} {cells slots : Nat} {ls : Array Slot} (C0 : lw_At p s m meth c b Ls xs) (hL9 : Ls ≤ 2048) (hl0 : l.stackTraces = false) (hT : kr_T s) (hw : kr_wf N L A) (hwe : kr_we N A) (hK : va_K D vwCl [(cy, .int), (cl, .long)] s) (hP : va_P D vwCl (kr_WW cy cl h a h' a' o N L A th N L A O) H) (hD : va_D (kr_new s) (kr_WW cy cl h a h' a' o N L A th N L A O)) (hS : va_S (kr_new s) s.heap H locs) (hi : i + 4 ≤ Ls) (hl : lv_has ls 9 [(0, .ref b), (1, .ref h), (2, .ref h'), (3, .ref o), (4, .int (nI i))]) (hf : cells + 16 ≤ 601024 ∧ slots + 112 ≤ 7293034) (kT : ∀ (N L : Nat) (A : Nat → Nat → Int32) (th : Int32) (O : Nat → Int64) (H : Heap) (locs : List Loc) (ls : Array Slot), kr_wf N L A → kr_we N A → va_P D vwCl (kr_WW cy cl h a h' a' o N L A th N L A O) H → va_D (kr_new s) (kr_WW cy cl h a h' a' o N L A th N L A O) → va_S (kr_new s) s.heap H locs → lv_has ls 9 [(0, .ref b), (1, .ref h), (2, .ref h'), (3, .ref o), (4, .int (nI i))] → W p l e room_1 s m #[Value.ref b] below meth c H locs (cells + 16) (slots + 112) Q (F0 m 1889 ls [])) : W p l e room_1 s m #[Value.ref b] below meth c H locs cells slots Q (F0 m 1554 ls []) := by
  obtain ⟨hx, hb, hr, hml, hown, hts0, hX, hbl, hlocks, hgv⟩ := id C0
  have hts : ∀ w ∈ kr_all, w.before #[Value.ref b] s = true := fun w hw => hts0 w (List.mem_filter.mp hw).1
  have hown : s.vm.findClass RL = some m.cls := hown
  have hb : c.code = cL_law := hb
  have hbA : ¬ (kr_new s) b := Nat.not_le.mpr hbl
  obtain ⟨x, ex1⟩ : ∃ v, v = xs (nI (i + 1)).toNatClampNeg := ⟨_, rfl⟩
  obtain ⟨y, ex2⟩ : ∃ v, v = xs (nI (i + 2)).toNatClampNeg := ⟨_, rfl⟩
  refine lv_aload_n hx hb dL_law_1554 rfl (lv_at hl 1 rfl) ?_
  refine lv_aload_n hx hb dL_law_1555 rfl (lv_at hl 0 rfl) ?_
  refine lv_iload hx hb dL_law_1556 (lv_at hl 4 rfl) ?_
  refine lv_iconst (v := 1) hx hb dL_law_1558 (by decide) ?_
  refine kr_iaddN hx hb i 1 dL_law_1559 ?_
  refine va_sld hx hb hX hbl hbA hS (vp_in_nI (by omega) (by omega)) dL_law_1560 ?_
  rw [← ex1]
  refine lv_aload_n hx hb dL_law_1561 rfl (lv_at hl 0 rfl) ?_
  refine lv_iload hx hb dL_law_1562 (lv_at hl 4 rfl) ?_
  refine lv_iconst (v := 2) hx hb dL_law_1564 (by decide) ?_
  refine kr_iaddN hx hb i 2 dL_law_1565 ?_
  refine va_sld hx hb hX hbl hbA hS (vp_in_nI (by omega) (by omega)) dL_law_1566 ?_
  rw [← ex2]
  refine lv_aload_n hx hb dL_law_1567 rfl (lv_at hl 3 rfl) ?_
  refine kr_lawH (n := 4) (As := [.ref h, .int x, .int y, .ref o]) (rest := []) ⟨hx, hb, hml, hown, hts⟩ (h_L_holds l hl0 D cy cl h a o N L A O H.size x y hw) kgh_yL_holds ⟨rfl, rfl⟩ (by decide +kernel) ⟨Nat.le_of_ble_eq_true rfl, Nat.le_of_ble_eq_true rfl⟩ hP hK hD hS hT rfl hl.1 rfl (Nat.le_of_ble_eq_true rfl) dL_law_1568 ⟨show cells + 1 ≤ 601024 by omega, show slots + 6 ≤ 7293034 by omega⟩ (fun r9 O2 H locs e9 hP hD hS => ?_)
  obtain ⟨e9, hO⟩ := e9
  refine lv_istore (lv' := [(5, .int r9), (0, .ref b), (1, .ref h), (2, .ref h'), (3, .ref o), (4, .int (nI i))]) hx hb dL_law_1571 hl (by decide) rfl (fun ls hl => ?_)
  refine lv_aload_n hx hb dL_law_1573 rfl (lv_at hl 3 rfl) ?_
  refine lv_aload_n hx hb dL_law_1574 rfl (lv_at hl 1 rfl) ?_
  refine lv_iload hx hb dL_law_1575 (lv_at hl 5 rfl) ?_
  refine lv_iconst (v := 1) hx hb dL_law_1577 (by decide) ?_
  refine kr_iaddN hx hb i 1 dL_law_1578 ?_
  refine va_sld hx hb hX hbl hbA hS (vp_in_nI (by omega) (by omega)) dL_law_1579 ?_
  rw [← ex1]
  refine lv_aload_n hx hb dL_law_1580 rfl (lv_at hl 1 rfl) ?_
  refine lv_iload hx hb dL_law_1581 (lv_at hl 5 rfl) ?_
  refine lv_iconst (v := 2) hx hb dL_law_1583 (by decide) ?_
  refine kr_iaddN hx hb i 2 dL_law_1584 ?_
  refine va_sld hx hb hX hbl hbA hS (vp_in_nI (by omega) (by omega)) dL_law_1585 ?_
  rw [← ex2]
  refine kr_lawX (n := 2) (As := [.int x, .int y]) (rest := []) ⟨hx, hb, hml, hown, hts⟩ (c_X1_holds l D cy h' a' th N L A H.size x y hw) kg_RL_180 ⟨rfl, rfl⟩ (by decide +kernel) ⟨Nat.le_of_ble_eq_true rfl, Nat.le_of_ble_eq_true rfl⟩ hP hK hD hS rfl hl.1 rfl (Nat.le_of_ble_eq_true rfl) dL_law_1586 ⟨show cells + 1 ≤ 601024 by omega, show slots + 6 ≤ 7293034 by omega⟩ (fun r8 H locs e8 hP hD hS => ?_)
  refine lv_istore (lv' := [(6, .int r8), (5, .int r9), (0, .ref b), (1, .ref h), (2, .ref h'), (3, .ref o), (4, .int (nI i))]) hx hb dL_law_1589 hl (by decide) rfl (fun ls hl => ?_)
  refine lv_aload_n hx hb dL_law_1591 rfl (lv_at hl 4 rfl) ?_
  refine kr_vI (n := 0) (As := []) (rest := []) ⟨hx, hb, hml, hown, hts⟩ (c_X1_thrown l D cy h' a' _ _ _ _) kg_RL_104 ⟨rfl, rfl⟩ (by decide +kernel) ⟨Nat.le_of_ble_eq_true rfl, Nat.le_of_ble_eq_true rfl⟩ (kr_pw1 hP hK) rfl hl.1 rfl (Nat.le_of_ble_eq_true rfl) dL_law_1592 ⟨show cells + 1 ≤ 601024 by omega, show slots + 6 ≤ 7293034 by omega⟩ (fun r7 e7 => ?_)
  refine lv_iload hx hb dL_law_1595 (lv_at hl 1 rfl) ?_
  refine lv_icmp_eq (tgt := 1602) hx hb dL_law_1597 (by decide) (fun c1597 => ?_) (fun c1597 => absurd (e7.trans e9.symm) c1597)
  refine lv_iload hx hb dL_law_1602 (lv_at hl 1 rfl) ?_
  refine lv_if_ne (tgt := 1626) hx hb dL_law_1604 (by decide) (fun c1604 => ?_) (fun c1604 => ?_)
  · refine lv_goto (tgt := 1889) hx hb dL_law_1626 (by decide) ?_
    refine W.widen (k := cells + 16) (n := slots + 112) (by omega) (by omega) ?_
    exact kT _ _ _ _ _ _ _ ls hw hwe hP hD hS (lv_sub hl [2, 3, 4, 5, 6] rfl)
  · have hc : kr_cd (kr_i L x) (kr_o y) True = 0 := e9.symm.trans c1604
    have hO2 : O2 (0 : Int32).toNatClampNeg = Int32.toInt64 r8 := (hO hc).trans (congrArg Int32.toInt64 (e8 hc).symm)
    refine lv_aload_n hx hb dL_law_1607 rfl (lv_at hl 5 rfl) ?_
    refine lv_iconst (v := 0) hx hb dL_law_1608 (by decide) ?_
    refine va_lald hx hb hK hP 18 1 rfl rfl (show ¬ ((0 : Int32) < 0 ∨ 1 ≤ (0 : Int32).toNatClampNeg) by decide) dL_law_1609 ?_
    rw [hO2]
    refine lv_iload hx hb dL_law_1610 (lv_at hl 0 rfl) ?_
    refine lv_if_eq (tgt := 1619) hx hb dL_law_1612 (by decide) (fun c1612 => ?_) (fun c1612 => ?_)
    · rw [show Int32.toInt64 r8 = 0 by rw [c1612]; rfl]
      refine lv_lconst (v := 0) hx hb dL_law_1619 (by decide) ?_
      refine W.lcmp hx hb dL_law_1620 ?_
      refine lv_if_eq (tgt := 1626) hx hb dL_law_1621 (by decide) (fun c1621 => ?_) (fun c1621 => absurd (kr_lg _) c1621)
      refine lv_goto (tgt := 1889) hx hb dL_law_1626 (by decide) ?_
      refine W.widen (k := cells + 16) (n := slots + 112) (by omega) (by omega) ?_
      exact kT _ _ _ _ _ _ _ ls hw hwe hP hD hS (lv_sub hl [2, 3, 4, 5, 6] rfl)
    · have h9 := e8 hc
      have hz : Int32.toInt64 r8 = 1 := by
        by_cases hp : ¬ A 5 (kr_ix x) = 0 ∧ kr_gw A (kr_ix x) y = -1
        · rw [h9, if_pos hp]; rfl
        · exact absurd (h9.trans (if_neg hp)) c1612
      rw [hz]
      refine lv_lconst (v := 1) hx hb dL_law_1615 (by decide) ?_
      refine lv_goto (tgt := 1620) hx hb dL_law_1616 (by decide) ?_
      refine W.lcmp hx hb dL_law_1620 ?_
      refine lv_if_eq (tgt := 1626) hx hb dL_law_1621 (by decide) (fun c1621 => ?_) (fun c1621 => absurd (kr_lg _) c1621)
      refine lv_goto (tgt := 1889) hx hb dL_law_1626 (by decide) ?_
      refine W.widen (k := cells + 16) (n := slots + 112) (by omega) (by omega) ?_
      exact kT _ _ _ _ _ _ _ ls hw hwe hP hD hS (lv_sub hl [2, 3, 4, 5, 6] rfl)
theorem kgh_yL_holdsUpTo : GoodIn kr_all (va_wsS RL 181 yL_holdsUpTo (Cond.codeWith yL_holdsUpTo cL_holdsUpTo 4 (some .int) [(0, 9, 12, 13)] :: kr_all)) := kr_gW kq_518 kq_519 kq_47 kq_520
theorem kg_RL_183 : GoodIn kr_all (wsV RL 183 RX1 yX1_holdsUpTo (Cond.code yX1_holdsUpTo cX1_holdsUpTo 2 (some .int) :: kr_all)) := kr_gV kq_767 kq_768 kq_769 kq_49 kq_770
set_option maxHeartbeats 4000000 in
set_option maxRecDepth 100000 in
theorem law_c_holdsUpTo {p : Program} {l : Launch} {e : Env} {s : State} {m : MethodId} {below : List Frame} {meth : Method} {c : Code} {Q : State → Prop} {b Ls : Nat} {xs : Nat → Int32} {D : va_G} {cy cl : ClassId} {h h' o i N L : Nat} {a a' : Nat → Nat} {A : Nat → Nat → Int32} {th : Int32} {O : Nat → Int64} {H : Heap} {locs : List Loc} {cells slots : Nat} {ls : Array Slot} (C0 : lw_At p s m meth c b Ls xs) (hL9 : Ls ≤ 2048) (hl0 : l.stackTraces = false) (hT : kr_T s) (hw : kr_wf N L A) (hwe : kr_we N A) (hK : va_K D vwCl [(cy, .int), (cl, .long)] s) (hP : va_P D vwCl (kr_WW cy cl h a h' a' o N L A th N L A O) H) (hD : va_D (kr_new s) (kr_WW cy cl h a h' a' o N L A th N L A O)) (hS : va_S (kr_new s) s.heap H locs) (hi : i + 4 ≤ Ls) (hl : lv_has ls 9 [(0, .ref b), (1, .ref h), (2, .ref h'), (3, .ref o), (4, .int (nI i))]) (hf : cells + 16 ≤ 601024 ∧ slots + 112 ≤ 7293034) (kT : ∀ (N L : Nat) (A : Nat → Nat → Int32) (th : Int32) (O : Nat → Int64) (H : Heap) (locs : List Loc) (ls : Array Slot), kr_wf N L A → kr_we N A → va_P D vwCl (kr_WW cy cl h a h' a' o N L A th N L A O) H → va_D (kr_new s) (kr_WW cy cl h a h' a' o N L A th N L A O) → va_S (kr_new s) s.heap H locs → lv_has ls 9 [(0, .ref b), (1, .ref h), (2, .ref h'), (3, .ref o), (4, .int (nI i))] → W p l e room_1 s m #[Value.ref b] below meth c H locs (cells + 16) (slots + 112) Q (F0 m 1889 ls [])) : W p l e room_1 s m #[Value.ref b] below meth c H locs cells slots Q (F0 m 1629 ls []) := by
  obtain ⟨hx, hb, hr, hml, hown, hts0, hX, hbl, hlocks, hgv⟩ := id C0
  have hts : ∀ w ∈ kr_all, w.before #[Value.ref b] s = true := fun w hw => hts0 w (List.mem_filter.mp hw).1
  have hown : s.vm.findClass RL = some m.cls := hown
  have hb : c.code = cL_law := hb
  have hbA : ¬ (kr_new s) b := Nat.not_le.mpr hbl
  obtain ⟨x, ex1⟩ : ∃ v, v = xs (nI (i + 1)).toNatClampNeg := ⟨_, rfl⟩
  refine lv_aload_n hx hb dL_law_1629 rfl (lv_at hl 1 rfl) ?_
  refine lv_aload_n hx hb dL_law_1630 rfl (lv_at hl 0 rfl) ?_
  refine lv_iload hx hb dL_law_1631 (lv_at hl 4 rfl) ?_
  refine lv_iconst (v := 1) hx hb dL_law_1633 (by decide) ?_
  refine kr_iaddN hx hb i 1 dL_law_1634 ?_
  refine va_sld hx hb hX hbl hbA hS (vp_in_nI (by omega) (by omega)) dL_law_1635 ?_
  rw [← ex1]
  refine lv_aload_n hx hb dL_law_1636 rfl (lv_at hl 3 rfl) ?_
  refine kr_lawH (n := 3) (As := [.ref h, .int x, .ref o]) (rest := []) ⟨hx, hb, hml, hown, hts⟩ (h_L_holdsUpTo l hl0 D cy cl h a o N L A O H.size x hw) kgh_yL_holdsUpTo ⟨rfl, rfl⟩ (by decide +kernel) ⟨Nat.le_of_ble_eq_true rfl, Nat.le_of_ble_eq_true rfl⟩ hP hK hD hS hT rfl hl.1 rfl (Nat.le_of_ble_eq_true rfl) dL_law_1637 ⟨show cells + 1 ≤ 601024 by omega, show slots + 6 ≤ 7293034 by omega⟩ (fun r9 O2 H locs e9 hP hD hS => ?_)
  obtain ⟨e9, hO⟩ := e9
  refine lv_istore (lv' := [(5, .int r9), (0, .ref b), (1, .ref h), (2, .ref h'), (3, .ref o), (4, .int (nI i))]) hx hb dL_law_1640 hl (by decide) rfl (fun ls hl => ?_)
  refine lv_aload_n hx hb dL_law_1642 rfl (lv_at hl 3 rfl) ?_
  refine lv_aload_n hx hb dL_law_1643 rfl (lv_at hl 1 rfl) ?_
  refine lv_iload hx hb dL_law_1644 (lv_at hl 5 rfl) ?_
  refine lv_iconst (v := 1) hx hb dL_law_1646 (by decide) ?_
  refine kr_iaddN hx hb i 1 dL_law_1647 ?_
  refine va_sld hx hb hX hbl hbA hS (vp_in_nI (by omega) (by omega)) dL_law_1648 ?_
  rw [← ex1]
  refine kr_lawX (n := 1) (As := [.int x]) (rest := []) ⟨hx, hb, hml, hown, hts⟩ (c_X1_holdsUpTo l D cy h' a' th N L A H.size x hw) kg_RL_183 ⟨rfl, rfl⟩ (by decide +kernel) ⟨Nat.le_of_ble_eq_true rfl, Nat.le_of_ble_eq_true rfl⟩ hP hK hD hS rfl hl.1 rfl (Nat.le_of_ble_eq_true rfl) dL_law_1649 ⟨show cells + 1 ≤ 601024 by omega, show slots + 6 ≤ 7293034 by omega⟩ (fun r8 H locs e8 hP hD hS => ?_)
  refine lv_istore (lv' := [(6, .int r8), (5, .int r9), (0, .ref b), (1, .ref h), (2, .ref h'), (3, .ref o), (4, .int (nI i))]) hx hb dL_law_1652 hl (by decide) rfl (fun ls hl => ?_)
  refine lv_aload_n hx hb dL_law_1654 rfl (lv_at hl 4 rfl) ?_
  refine kr_vI (n := 0) (As := []) (rest := []) ⟨hx, hb, hml, hown, hts⟩ (c_X1_thrown l D cy h' a' _ _ _ _) kg_RL_104 ⟨rfl, rfl⟩ (by decide +kernel) ⟨Nat.le_of_ble_eq_true rfl, Nat.le_of_ble_eq_true rfl⟩ (kr_pw1 hP hK) rfl hl.1 rfl (Nat.le_of_ble_eq_true rfl) dL_law_1655 ⟨show cells + 1 ≤ 601024 by omega, show slots + 6 ≤ 7293034 by omega⟩ (fun r7 e7 => ?_)
  refine lv_iload hx hb dL_law_1658 (lv_at hl 1 rfl) ?_
  refine lv_icmp_eq (tgt := 1665) hx hb dL_law_1660 (by decide) (fun c1660 => ?_) (fun c1660 => absurd (e7.trans e9.symm) c1660)
  refine lv_iload hx hb dL_law_1665 (lv_at hl 1 rfl) ?_
  refine lv_if_ne (tgt := 1682) hx hb dL_law_1667 (by decide) (fun c1667 => ?_) (fun c1667 => ?_)
  · refine lv_goto (tgt := 1889) hx hb dL_law_1682 (by decide) ?_
    refine W.widen (k := cells + 16) (n := slots + 112) (by omega) (by omega) ?_
    exact kT _ _ _ _ _ _ _ ls hw hwe hP hD hS (lv_sub hl [2, 3, 4, 5, 6] rfl)
  · have hc : kr_cd (kr_i L x) True True = 0 := e9.symm.trans c1667
    have hO2 : O2 (0 : Int32).toNatClampNeg = Int32.toInt64 r8 := (hO hc).trans (congrArg Int32.toInt64 (e8 hc).symm)
    refine lv_aload_n hx hb dL_law_1670 rfl (lv_at hl 5 rfl) ?_
    refine lv_iconst (v := 0) hx hb dL_law_1671 (by decide) ?_
    refine va_lald hx hb hK hP 18 1 rfl rfl (show ¬ ((0 : Int32) < 0 ∨ 1 ≤ (0 : Int32).toNatClampNeg) by decide) dL_law_1672 ?_
    rw [hO2]
    refine lv_iload hx hb dL_law_1673 (lv_at hl 0 rfl) ?_
    refine lv_i2l (v := r8.toInt64) hx hb dL_law_1675 rfl ?_
    refine W.lcmp hx hb dL_law_1676 ?_
    refine lv_if_eq (tgt := 1682) hx hb dL_law_1677 (by decide) (fun c1677 => ?_) (fun c1677 => absurd (kr_lg _) c1677)
    refine lv_goto (tgt := 1889) hx hb dL_law_1682 (by decide) ?_
    refine W.widen (k := cells + 16) (n := slots + 112) (by omega) (by omega) ?_
    exact kT _ _ _ _ _ _ _ ls hw hwe hP hD hS (lv_sub hl [2, 3, 4, 5, 6] rfl)
theorem kgh_yL_wouldGiveWay : GoodIn kr_all (va_wsS RL 184 yL_wouldGiveWay (Cond.codeWith yL_wouldGiveWay cL_wouldGiveWay 5 (some .int) [(0, 10, 13, 13), (0, 10, 17, 15)] :: kr_all)) := kr_gW kq_522 kq_523 kq_47 kq_524
theorem kg_RL_186 : GoodIn kr_all (wsV RL 186 RX1 yX1_wouldGiveWay (Cond.code yX1_wouldGiveWay cX1_wouldGiveWay 3 (some .int) :: kr_all)) := kr_gV kq_779 kq_780 kq_781 kq_49 kq_782
set_option maxHeartbeats 4000000 in
set_option maxRecDepth 100000 in
theorem law_c_wouldGiveWay {p : Program} {l : Launch} {e : Env} {s : State} {m : MethodId} {below : List Frame} {meth : Method} {c : Code} {Q : State → Prop} {b Ls : Nat} {xs : Nat → Int32} {D : va_G} {cy cl : ClassId} {h h' o i N L : Nat} {a a' : Nat → Nat} {A : Nat → Nat → Int32} {th : Int32} {O : Nat → Int64} {H : Heap} {locs : List Loc} {cells slots : Nat} {ls : Array Slot} (C0 : lw_At p s m meth c b Ls xs) (hL9 : Ls ≤ 2048) (hl0 : l.stackTraces = false) (hT : kr_T s) (hw : kr_wf N L A) (hwe : kr_we N A) (hK : va_K D vwCl [(cy, .int), (cl, .long)] s) (hP : va_P D vwCl (kr_WW cy cl h a h' a' o N L A th N L A O) H) (hD : va_D (kr_new s) (kr_WW cy cl h a h' a' o N L A th N L A O)) (hS : va_S (kr_new s) s.heap H locs) (hi : i + 4 ≤ Ls) (hl : lv_has ls 9 [(0, .ref b), (1, .ref h), (2, .ref h'), (3, .ref o), (4, .int (nI i))]) (hf : cells + 16 ≤ 601024 ∧ slots + 112 ≤ 7293034) (kT : ∀ (N L : Nat) (A : Nat → Nat → Int32) (th : Int32) (O : Nat → Int64) (H : Heap) (locs : List Loc) (ls : Array Slot), kr_wf N L A → kr_we N A → va_P D vwCl (kr_WW cy cl h a h' a' o N L A th N L A O) H → va_D (kr_new s) (kr_WW cy cl h a h' a' o N L A th N L A O) → va_S (kr_new s) s.heap H locs → lv_has ls 9 [(0, .ref b), (1, .ref h), (2, .ref h'), (3, .ref o), (4, .int (nI i))] → W p l e room_1 s m #[Value.ref b] below meth c H locs (cells + 16) (slots + 112) Q (F0 m 1889 ls [])) : W p l e room_1 s m #[Value.ref b] below meth c H locs cells slots Q (F0 m 1685 ls []) := by
  obtain ⟨hx, hb, hr, hml, hown, hts0, hX, hbl, hlocks, hgv⟩ := id C0
  have hts : ∀ w ∈ kr_all, w.before #[Value.ref b] s = true := fun w hw => hts0 w (List.mem_filter.mp hw).1
  have hown : s.vm.findClass RL = some m.cls := hown
  have hb : c.code = cL_law := hb
  have hbA : ¬ (kr_new s) b := Nat.not_le.mpr hbl
  obtain ⟨x, ex1⟩ : ∃ v, v = xs (nI (i + 1)).toNatClampNeg := ⟨_, rfl⟩
  obtain ⟨y, ex2⟩ : ∃ v, v = xs (nI (i + 2)).toNatClampNeg := ⟨_, rfl⟩
  refine lv_aload_n hx hb dL_law_1685 rfl (lv_at hl 1 rfl) ?_
  refine lv_aload_n hx hb dL_law_1686 rfl (lv_at hl 0 rfl) ?_
  refine lv_iload hx hb dL_law_1687 (lv_at hl 4 rfl) ?_
  refine lv_iconst (v := 1) hx hb dL_law_1689 (by decide) ?_
  refine kr_iaddN hx hb i 1 dL_law_1690 ?_
  refine va_sld hx hb hX hbl hbA hS (vp_in_nI (by omega) (by omega)) dL_law_1691 ?_
  rw [← ex1]
  refine lv_aload_n hx hb dL_law_1692 rfl (lv_at hl 0 rfl) ?_
  refine lv_iload hx hb dL_law_1693 (lv_at hl 4 rfl) ?_
  refine lv_iconst (v := 2) hx hb dL_law_1695 (by decide) ?_
  refine kr_iaddN hx hb i 2 dL_law_1696 ?_
  refine va_sld hx hb hX hbl hbA hS (vp_in_nI (by omega) (by omega)) dL_law_1697 ?_
  rw [← ex2]
  refine lv_aload_n hx hb dL_law_1698 rfl (lv_at hl 3 rfl) ?_
  refine kr_lawH (n := 4) (As := [.ref h, .int x, .int y, .ref o]) (rest := []) ⟨hx, hb, hml, hown, hts⟩ (h_L_wouldGiveWay l hl0 D cy cl h a o N L A O H.size x y hw) kgh_yL_wouldGiveWay ⟨rfl, rfl⟩ (by decide +kernel) ⟨Nat.le_of_ble_eq_true rfl, Nat.le_of_ble_eq_true rfl⟩ hP hK hD hS hT rfl hl.1 rfl (Nat.le_of_ble_eq_true rfl) dL_law_1699 ⟨show cells + 1 ≤ 601024 by omega, show slots + 6 ≤ 7293034 by omega⟩ (fun r9 O2 H locs e9 hP hD hS => ?_)
  obtain ⟨e9, hO⟩ := e9
  refine lv_istore (lv' := [(5, .int r9), (0, .ref b), (1, .ref h), (2, .ref h'), (3, .ref o), (4, .int (nI i))]) hx hb dL_law_1702 hl (by decide) rfl (fun ls hl => ?_)
  refine lv_aload_n hx hb dL_law_1704 rfl (lv_at hl 3 rfl) ?_
  refine lv_aload_n hx hb dL_law_1705 rfl (lv_at hl 1 rfl) ?_
  refine lv_iload hx hb dL_law_1706 (lv_at hl 5 rfl) ?_
  refine lv_iconst (v := 1) hx hb dL_law_1708 (by decide) ?_
  refine kr_iaddN hx hb i 1 dL_law_1709 ?_
  refine va_sld hx hb hX hbl hbA hS (vp_in_nI (by omega) (by omega)) dL_law_1710 ?_
  rw [← ex1]
  refine lv_aload_n hx hb dL_law_1711 rfl (lv_at hl 1 rfl) ?_
  refine lv_iload hx hb dL_law_1712 (lv_at hl 5 rfl) ?_
  refine lv_iconst (v := 2) hx hb dL_law_1714 (by decide) ?_
  refine kr_iaddN hx hb i 2 dL_law_1715 ?_
  refine va_sld hx hb hX hbl hbA hS (vp_in_nI (by omega) (by omega)) dL_law_1716 ?_
  rw [← ex2]
  refine kr_lawX (n := 2) (As := [.int x, .int y]) (rest := []) ⟨hx, hb, hml, hown, hts⟩ (c_X1_wouldGiveWay l D cy h' a' th N L A H.size x y hw) kg_RL_186 ⟨rfl, rfl⟩ (by decide +kernel) ⟨Nat.le_of_ble_eq_true rfl, Nat.le_of_ble_eq_true rfl⟩ hP hK hD hS rfl hl.1 rfl (Nat.le_of_ble_eq_true rfl) dL_law_1717 ⟨show cells + 1 ≤ 601024 by omega, show slots + 6 ≤ 7293034 by omega⟩ (fun r8 H locs e8 hP hD hS => ?_)
  refine lv_istore (lv' := [(6, .int r8), (5, .int r9), (0, .ref b), (1, .ref h), (2, .ref h'), (3, .ref o), (4, .int (nI i))]) hx hb dL_law_1720 hl (by decide) rfl (fun ls hl => ?_)
  refine lv_aload_n hx hb dL_law_1722 rfl (lv_at hl 4 rfl) ?_
  refine kr_vI (n := 0) (As := []) (rest := []) ⟨hx, hb, hml, hown, hts⟩ (c_X1_thrown l D cy h' a' _ _ _ _) kg_RL_104 ⟨rfl, rfl⟩ (by decide +kernel) ⟨Nat.le_of_ble_eq_true rfl, Nat.le_of_ble_eq_true rfl⟩ (kr_pw1 hP hK) rfl hl.1 rfl (Nat.le_of_ble_eq_true rfl) dL_law_1723 ⟨show cells + 1 ≤ 601024 by omega, show slots + 6 ≤ 7293034 by omega⟩ (fun r7 e7 => ?_)
  refine lv_iload hx hb dL_law_1726 (lv_at hl 1 rfl) ?_
  refine lv_icmp_eq (tgt := 1733) hx hb dL_law_1728 (by decide) (fun c1728 => ?_) (fun c1728 => absurd (e7.trans e9.symm) c1728)
  refine lv_iload hx hb dL_law_1733 (lv_at hl 1 rfl) ?_
  refine lv_if_ne (tgt := 1750) hx hb dL_law_1735 (by decide) (fun c1735 => ?_) (fun c1735 => ?_)
  · refine lv_goto (tgt := 1889) hx hb dL_law_1750 (by decide) ?_
    refine W.widen (k := cells + 16) (n := slots + 112) (by omega) (by omega) ?_
    exact kT _ _ _ _ _ _ _ ls hw hwe hP hD hS (lv_sub hl [2, 3, 4, 5, 6] rfl)
  · have hc : kr_cd (kr_i L x) (kr_o y) True = 0 := e9.symm.trans c1735
    have hO2 : O2 (0 : Int32).toNatClampNeg = Int32.toInt64 r8 := (hO hc).trans (congrArg Int32.toInt64 (e8 hc).symm)
    refine lv_aload_n hx hb dL_law_1738 rfl (lv_at hl 5 rfl) ?_
    refine lv_iconst (v := 0) hx hb dL_law_1739 (by decide) ?_
    refine va_lald hx hb hK hP 18 1 rfl rfl (show ¬ ((0 : Int32) < 0 ∨ 1 ≤ (0 : Int32).toNatClampNeg) by decide) dL_law_1740 ?_
    rw [hO2]
    refine lv_iload hx hb dL_law_1741 (lv_at hl 0 rfl) ?_
    refine lv_i2l (v := r8.toInt64) hx hb dL_law_1743 rfl ?_
    refine W.lcmp hx hb dL_law_1744 ?_
    refine lv_if_eq (tgt := 1750) hx hb dL_law_1745 (by decide) (fun c1745 => ?_) (fun c1745 => absurd (kr_lg _) c1745)
    refine lv_goto (tgt := 1889) hx hb dL_law_1750 (by decide) ?_
    refine W.widen (k := cells + 16) (n := slots + 112) (by omega) (by omega) ?_
    exact kT _ _ _ _ _ _ _ ls hw hwe hP hD hS (lv_sub hl [2, 3, 4, 5, 6] rfl)
theorem kgh_yL_bestKnot : GoodIn kr_all (va_wsS RL 187 yL_bestKnot (Cond.codeWith yL_bestKnot cL_bestKnot 5 (some .int) [(0, 10, 13, 13)] :: kr_all)) := kr_gW kq_529 kq_530 kq_47 kq_531
theorem kg_RL_189 : GoodIn kr_all (wsV RL 189 RX1 yX1_bestKnot (Cond.code yX1_bestKnot cX1_bestKnot 3 (some .int) :: kr_all)) := kr_gV kq_783 kq_784 kq_785 kq_49 kq_786
set_option maxHeartbeats 4000000 in
set_option maxRecDepth 100000 in
theorem law_c_bestKnot {p : Program} {l : Launch} {e : Env} {s : State} {m : MethodId} {below : List Frame} {meth : Method} {c : Code} {Q : State → Prop} {b Ls : Nat} {xs : Nat → Int32} {D : va_G} {cy cl : ClassId} {h h' o i N L : Nat} {a a' : Nat → Nat} {A : Nat → Nat → Int32} {th : Int32} {O : Nat → Int64} {H : Heap} {locs : List Loc} {cells slots : Nat} {ls : Array Slot} (C0 : lw_At p s m meth c b Ls xs) (hL9 : Ls ≤ 2048) (hl0 : l.stackTraces = false) (hT : kr_T s) (hw : kr_wf N L A) (hwe : kr_we N A) (hK : va_K D vwCl [(cy, .int), (cl, .long)] s) (hP : va_P D vwCl (kr_WW cy cl h a h' a' o N L A th N L A O) H) (hD : va_D (kr_new s) (kr_WW cy cl h a h' a' o N L A th N L A O)) (hS : va_S (kr_new s) s.heap H locs) (hi : i + 4 ≤ Ls) (hl : lv_has ls 9 [(0, .ref b), (1, .ref h), (2, .ref h'), (3, .ref o), (4, .int (nI i))]) (hf : cells + 16 ≤ 601024 ∧ slots + 112 ≤ 7293034) (kT : ∀ (N L : Nat) (A : Nat → Nat → Int32) (th : Int32) (O : Nat → Int64) (H : Heap) (locs : List Loc) (ls : Array Slot), kr_wf N L A → kr_we N A → va_P D vwCl (kr_WW cy cl h a h' a' o N L A th N L A O) H → va_D (kr_new s) (kr_WW cy cl h a h' a' o N L A th N L A O) → va_S (kr_new s) s.heap H locs → lv_has ls 9 [(0, .ref b), (1, .ref h), (2, .ref h'), (3, .ref o), (4, .int (nI i))] → W p l e room_1 s m #[Value.ref b] below meth c H locs (cells + 16) (slots + 112) Q (F0 m 1889 ls [])) : W p l e room_1 s m #[Value.ref b] below meth c H locs cells slots Q (F0 m 1753 ls []) := by
  obtain ⟨hx, hb, hr, hml, hown, hts0, hX, hbl, hlocks, hgv⟩ := id C0
  have hts : ∀ w ∈ kr_all, w.before #[Value.ref b] s = true := fun w hw => hts0 w (List.mem_filter.mp hw).1
  have hown : s.vm.findClass RL = some m.cls := hown
  have hb : c.code = cL_law := hb
  have hbA : ¬ (kr_new s) b := Nat.not_le.mpr hbl
  obtain ⟨x, ex1⟩ : ∃ v, v = xs (nI (i + 1)).toNatClampNeg := ⟨_, rfl⟩
  obtain ⟨y, ex2⟩ : ∃ v, v = xs (nI (i + 2)).toNatClampNeg := ⟨_, rfl⟩
  refine lv_aload_n hx hb dL_law_1753 rfl (lv_at hl 1 rfl) ?_
  refine lv_aload_n hx hb dL_law_1754 rfl (lv_at hl 0 rfl) ?_
  refine lv_iload hx hb dL_law_1755 (lv_at hl 4 rfl) ?_
  refine lv_iconst (v := 1) hx hb dL_law_1757 (by decide) ?_
  refine kr_iaddN hx hb i 1 dL_law_1758 ?_
  refine va_sld hx hb hX hbl hbA hS (vp_in_nI (by omega) (by omega)) dL_law_1759 ?_
  rw [← ex1]
  refine lv_aload_n hx hb dL_law_1760 rfl (lv_at hl 0 rfl) ?_
  refine lv_iload hx hb dL_law_1761 (lv_at hl 4 rfl) ?_
  refine lv_iconst (v := 2) hx hb dL_law_1763 (by decide) ?_
  refine kr_iaddN hx hb i 2 dL_law_1764 ?_
  refine va_sld hx hb hX hbl hbA hS (vp_in_nI (by omega) (by omega)) dL_law_1765 ?_
  rw [← ex2]
  refine lv_aload_n hx hb dL_law_1766 rfl (lv_at hl 3 rfl) ?_
  refine kr_lawH (n := 4) (As := [.ref h, .int x, .int y, .ref o]) (rest := []) ⟨hx, hb, hml, hown, hts⟩ (h_L_bestKnot l hl0 D cy cl h a o N L A O H.size x y hw) kgh_yL_bestKnot ⟨rfl, rfl⟩ (by decide +kernel) ⟨Nat.le_of_ble_eq_true rfl, Nat.le_of_ble_eq_true rfl⟩ hP hK hD hS hT rfl hl.1 rfl (Nat.le_of_ble_eq_true rfl) dL_law_1767 ⟨show cells + 1 ≤ 601024 by omega, show slots + 6 ≤ 7293034 by omega⟩ (fun r9 O2 H locs e9 hP hD hS => ?_)
  obtain ⟨e9, hO⟩ := e9
  refine lv_istore (lv' := [(5, .int r9), (0, .ref b), (1, .ref h), (2, .ref h'), (3, .ref o), (4, .int (nI i))]) hx hb dL_law_1770 hl (by decide) rfl (fun ls hl => ?_)
  refine lv_aload_n hx hb dL_law_1772 rfl (lv_at hl 3 rfl) ?_
  refine lv_aload_n hx hb dL_law_1773 rfl (lv_at hl 1 rfl) ?_
  refine lv_iload hx hb dL_law_1774 (lv_at hl 5 rfl) ?_
  refine lv_iconst (v := 1) hx hb dL_law_1776 (by decide) ?_
  refine kr_iaddN hx hb i 1 dL_law_1777 ?_
  refine va_sld hx hb hX hbl hbA hS (vp_in_nI (by omega) (by omega)) dL_law_1778 ?_
  rw [← ex1]
  refine lv_aload_n hx hb dL_law_1779 rfl (lv_at hl 1 rfl) ?_
  refine lv_iload hx hb dL_law_1780 (lv_at hl 5 rfl) ?_
  refine lv_iconst (v := 2) hx hb dL_law_1782 (by decide) ?_
  refine kr_iaddN hx hb i 2 dL_law_1783 ?_
  refine va_sld hx hb hX hbl hbA hS (vp_in_nI (by omega) (by omega)) dL_law_1784 ?_
  rw [← ex2]
  refine kr_lawX (n := 2) (As := [.int x, .int y]) (rest := []) ⟨hx, hb, hml, hown, hts⟩ (c_X1_bestKnot l D cy h' a' th N L A H.size x y hw) kg_RL_189 ⟨rfl, rfl⟩ (by decide +kernel) ⟨Nat.le_of_ble_eq_true rfl, Nat.le_of_ble_eq_true rfl⟩ hP hK hD hS rfl hl.1 rfl (Nat.le_of_ble_eq_true rfl) dL_law_1785 ⟨show cells + 1 ≤ 601024 by omega, show slots + 6 ≤ 7293034 by omega⟩ (fun r8 H locs e8 hP hD hS => ?_)
  refine lv_istore (lv' := [(6, .int r8), (5, .int r9), (0, .ref b), (1, .ref h), (2, .ref h'), (3, .ref o), (4, .int (nI i))]) hx hb dL_law_1788 hl (by decide) rfl (fun ls hl => ?_)
  refine lv_aload_n hx hb dL_law_1790 rfl (lv_at hl 4 rfl) ?_
  refine kr_vI (n := 0) (As := []) (rest := []) ⟨hx, hb, hml, hown, hts⟩ (c_X1_thrown l D cy h' a' _ _ _ _) kg_RL_104 ⟨rfl, rfl⟩ (by decide +kernel) ⟨Nat.le_of_ble_eq_true rfl, Nat.le_of_ble_eq_true rfl⟩ (kr_pw1 hP hK) rfl hl.1 rfl (Nat.le_of_ble_eq_true rfl) dL_law_1791 ⟨show cells + 1 ≤ 601024 by omega, show slots + 6 ≤ 7293034 by omega⟩ (fun r7 e7 => ?_)
  refine lv_iload hx hb dL_law_1794 (lv_at hl 1 rfl) ?_
  refine lv_icmp_eq (tgt := 1801) hx hb dL_law_1796 (by decide) (fun c1796 => ?_) (fun c1796 => absurd (e7.trans e9.symm) c1796)
  refine lv_iload hx hb dL_law_1801 (lv_at hl 1 rfl) ?_
  refine lv_if_ne (tgt := 1818) hx hb dL_law_1803 (by decide) (fun c1803 => ?_) (fun c1803 => ?_)
  · refine lv_goto (tgt := 1889) hx hb dL_law_1818 (by decide) ?_
    refine W.widen (k := cells + 16) (n := slots + 112) (by omega) (by omega) ?_
    exact kT _ _ _ _ _ _ _ ls hw hwe hP hD hS (lv_sub hl [2, 3, 4, 5, 6] rfl)
  · have hc : kr_cd (kr_q L A x y) True True = 0 := e9.symm.trans c1803
    have hO2 : O2 (0 : Int32).toNatClampNeg = Int32.toInt64 r8 := (hO hc).trans (congrArg Int32.toInt64 (e8 hc).symm)
    refine lv_aload_n hx hb dL_law_1806 rfl (lv_at hl 5 rfl) ?_
    refine lv_iconst (v := 0) hx hb dL_law_1807 (by decide) ?_
    refine va_lald hx hb hK hP 18 1 rfl rfl (show ¬ ((0 : Int32) < 0 ∨ 1 ≤ (0 : Int32).toNatClampNeg) by decide) dL_law_1808 ?_
    rw [hO2]
    refine lv_iload hx hb dL_law_1809 (lv_at hl 0 rfl) ?_
    refine lv_i2l (v := r8.toInt64) hx hb dL_law_1811 rfl ?_
    refine W.lcmp hx hb dL_law_1812 ?_
    refine lv_if_eq (tgt := 1818) hx hb dL_law_1813 (by decide) (fun c1813 => ?_) (fun c1813 => absurd (kr_lg _) c1813)
    refine lv_goto (tgt := 1889) hx hb dL_law_1818 (by decide) ?_
    refine W.widen (k := cells + 16) (n := slots + 112) (by omega) (by omega) ?_
    exact kT _ _ _ _ _ _ _ ls hw hwe hP hD hS (lv_sub hl [2, 3, 4, 5, 6] rfl)
theorem kg_RL_190 : GoodIn kr_all (wsV RL 190 RX0 yX0_strongestLine (Cond.code yX0_strongestLine cX0_strongestLine 5 (some .int) :: kr_all)) := kr_gV kq_105 kq_106 kq_107 kq_48 kq_108
theorem kg_RL_193 : GoodIn kr_all (wsV RL 193 RX1 yX1_strongestLine (Cond.code yX1_strongestLine cX1_strongestLine 1 (some .int) :: kr_all)) := kr_gV kq_791 kq_792 kq_793 kq_49 kq_794
set_option maxHeartbeats 4000000 in
set_option maxRecDepth 100000 in
theorem law_c_strongestLine {p : Program} {l : Launch} {e : Env} {s : State} {m : MethodId} {below : List Frame} {meth : Method} {c : Code} {Q : State → Prop} {b Ls : Nat} {xs : Nat → Int32} {D : va_G} {cy cl : ClassId} {h h' o i N L : Nat} {a a' : Nat → Nat} {A : Nat → Nat → Int32} {th : Int32} {O : Nat → Int64} {H : Heap} {locs : List Loc} {cells slots : Nat} {ls : Array Slot} (C0 : lw_At p s m meth c b Ls xs) (hL9 : Ls ≤ 2048) (hl0 : l.stackTraces = false) (hT : kr_T s) (hw : kr_wf N L A) (hwe : kr_we N A) (hK : va_K D vwCl [(cy, .int), (cl, .long)] s) (hP : va_P D vwCl (kr_WW cy cl h a h' a' o N L A th N L A O) H) (hD : va_D (kr_new s) (kr_WW cy cl h a h' a' o N L A th N L A O)) (hS : va_S (kr_new s) s.heap H locs) (hi : i + 4 ≤ Ls) (hl : lv_has ls 9 [(0, .ref b), (1, .ref h), (2, .ref h'), (3, .ref o), (4, .int (nI i))]) (hf : cells + 16 ≤ 601024 ∧ slots + 112 ≤ 7293034) (kT : ∀ (N L : Nat) (A : Nat → Nat → Int32) (th : Int32) (O : Nat → Int64) (H : Heap) (locs : List Loc) (ls : Array Slot), kr_wf N L A → kr_we N A → va_P D vwCl (kr_WW cy cl h a h' a' o N L A th N L A O) H → va_D (kr_new s) (kr_WW cy cl h a h' a' o N L A th N L A O) → va_S (kr_new s) s.heap H locs → lv_has ls 9 [(0, .ref b), (1, .ref h), (2, .ref h'), (3, .ref o), (4, .int (nI i))] → W p l e room_1 s m #[Value.ref b] below meth c H locs (cells + 16) (slots + 112) Q (F0 m 1889 ls [])) : W p l e room_1 s m #[Value.ref b] below meth c H locs cells slots Q (F0 m 1821 ls []) := by
  obtain ⟨hx, hb, hr, hml, hown, hts0, hX, hbl, hlocks, hgv⟩ := id C0
  have hts : ∀ w ∈ kr_all, w.before #[Value.ref b] s = true := fun w hw => hts0 w (List.mem_filter.mp hw).1
  have hown : s.vm.findClass RL = some m.cls := hown
  have hb : c.code = cL_law := hb
  have hbA : ¬ (kr_new s) b := Nat.not_le.mpr hbl
  refine lv_aload_n hx hb dL_law_1821 rfl (lv_at hl 1 rfl) ?_
  refine kr_vI (n := 0) (As := []) (rest := []) ⟨hx, hb, hml, hown, hts⟩ (c_X0_strongestLine l D cy h a N L A hw) kg_RL_190 ⟨rfl, rfl⟩ (by decide +kernel) ⟨Nat.le_of_ble_eq_true rfl, Nat.le_of_ble_eq_true rfl⟩ (kr_pw0 hP hK) rfl hl.1 rfl (Nat.le_of_ble_eq_true rfl) dL_law_1822 ⟨show cells ≤ 601024 by omega, show slots ≤ 7293034 by omega⟩ (fun r9 e9 => ?_)
  refine lv_aload_n hx hb dL_law_1825 rfl (lv_at hl 2 rfl) ?_
  refine kr_lawX (n := 0) (As := []) (rest := [.int r9]) ⟨hx, hb, hml, hown, hts⟩ (c_X1_strongestLine l D cy h' a' th N L A H.size hw) kg_RL_193 ⟨rfl, rfl⟩ (by decide +kernel) ⟨Nat.le_of_ble_eq_true rfl, Nat.le_of_ble_eq_true rfl⟩ hP hK hD hS rfl hl.1 rfl (Nat.le_of_ble_eq_true rfl) dL_law_1826 ⟨show cells + 0 ≤ 601024 by omega, show slots + 0 ≤ 7293034 by omega⟩ (fun r8 H locs e8 hP hD hS => ?_)
  refine lv_icmp_eq (tgt := 1889) hx hb dL_law_1829 (by decide) (fun c1829 => ?_) (fun c1829 => absurd (e9.trans e8.symm) c1829)
  refine W.widen (k := cells + 16) (n := slots + 112) (by omega) (by omega) ?_
  exact kT _ _ _ _ _ _ _ ls hw hwe hP hD hS (lv_sub hl [0, 1, 2, 3, 4] rfl)
theorem kg_RL_194 : GoodIn kr_all (wsV RL 194 RX0 yX0_meanEfficiency (Cond.code yX0_meanEfficiency cX0_meanEfficiency 3 (some .double) :: kr_all)) := kr_gV kq_214 kq_215 kq_216 kq_48 kq_217
theorem kg_RL_198 : GoodIn kr_all (wsV RL 198 RX1 yX1_meanEfficiency (Cond.code yX1_meanEfficiency cX1_meanEfficiency 3 (some .double) :: kr_all)) := kr_gV kq_799 kq_800 kq_801 kq_49 kq_802
set_option maxHeartbeats 4000000 in
set_option maxRecDepth 100000 in
theorem law_c_mean {p : Program} {l : Launch} {e : Env} {s : State} {m : MethodId} {below : List Frame} {meth : Method} {c : Code} {Q : State → Prop} {b Ls : Nat} {xs : Nat → Int32} {D : va_G} {cy cl : ClassId} {h h' o i N L : Nat} {a a' : Nat → Nat} {A : Nat → Nat → Int32} {th : Int32} {O : Nat → Int64} {H : Heap} {locs : List Loc} {cells slots : Nat} {ls : Array Slot} (C0 : lw_At p s m meth c b Ls xs) (hL9 : Ls ≤ 2048) (hl0 : l.stackTraces = false) (hT : kr_T s) (hw : kr_wf N L A) (hwe : kr_we N A) (hK : va_K D vwCl [(cy, .int), (cl, .long)] s) (hP : va_P D vwCl (kr_WW cy cl h a h' a' o N L A th N L A O) H) (hD : va_D (kr_new s) (kr_WW cy cl h a h' a' o N L A th N L A O)) (hS : va_S (kr_new s) s.heap H locs) (hi : i + 4 ≤ Ls) (hl : lv_has ls 9 [(0, .ref b), (1, .ref h), (2, .ref h'), (3, .ref o), (4, .int (nI i))]) (hf : cells + 16 ≤ 601024 ∧ slots + 112 ≤ 7293034) (kT : ∀ (N L : Nat) (A : Nat → Nat → Int32) (th : Int32) (O : Nat → Int64) (H : Heap) (locs : List Loc) (ls : Array Slot), kr_wf N L A → kr_we N A → va_P D vwCl (kr_WW cy cl h a h' a' o N L A th N L A O) H → va_D (kr_new s) (kr_WW cy cl h a h' a' o N L A th N L A O) → va_S (kr_new s) s.heap H locs → lv_has ls 9 [(0, .ref b), (1, .ref h), (2, .ref h'), (3, .ref o), (4, .int (nI i))] → W p l e room_1 s m #[Value.ref b] below meth c H locs (cells + 16) (slots + 112) Q (F0 m 1889 ls [])) : W p l e room_1 s m #[Value.ref b] below meth c H locs cells slots Q (F0 m 1834 ls []) := by
  obtain ⟨hx, hb, hr, hml, hown, hts0, hX, hbl, hlocks, hgv⟩ := id C0
  have hts : ∀ w ∈ kr_all, w.before #[Value.ref b] s = true := fun w hw => hts0 w (List.mem_filter.mp hw).1
  have hown : s.vm.findClass RL = some m.cls := hown
  have hb : c.code = cL_law := hb
  have hbA : ¬ (kr_new s) b := Nat.not_le.mpr hbl
  refine lv_aload_n hx hb dL_law_1834 rfl (lv_at hl 1 rfl) ?_
  refine kr_vD (n := 0) (As := []) (rest := []) ⟨hx, hb, hml, hown, hts⟩ (c_X0_meanEfficiency l D cy h a N L A hw.1 hwe) kg_RL_194 ⟨rfl, rfl⟩ (by decide +kernel) ⟨Nat.le_of_ble_eq_true rfl, Nat.le_of_ble_eq_true rfl⟩ (kr_pw0 hP hK) rfl hl.1 rfl (Nat.le_of_ble_eq_true rfl) dL_law_1835 ⟨show cells ≤ 601024 by omega, show slots ≤ 7293034 by omega⟩ (fun r9 e9 => ?_)
  rw [e9]
  refine lv_dstore (lv' := [(5, .double (kr_m2 N A)), (0, .ref b), (1, .ref h), (2, .ref h'), (3, .ref o), (4, .int (nI i))]) hx hb dL_law_1838 hl (by decide) rfl (fun ls hl => ?_)
  refine lv_aload_n hx hb dL_law_1840 rfl (lv_at hl 3 rfl) ?_
  refine kr_lawXD (n := 0) (As := []) (rest := []) ⟨hx, hb, hml, hown, hts⟩ (c_X1_meanEfficiency l D cy h' a' th N L A H.size hw.1 hwe) kg_RL_198 ⟨rfl, rfl⟩ (by decide +kernel) ⟨Nat.le_of_ble_eq_true rfl, Nat.le_of_ble_eq_true rfl⟩ hP hK hD hS rfl hl.1 rfl (Nat.le_of_ble_eq_true rfl) dL_law_1841 ⟨show cells + 0 ≤ 601024 by omega, show slots + 0 ≤ 7293034 by omega⟩ (fun r8 H locs e8 hP hD hS => ?_)
  rw [e8]
  refine lv_dstore (lv' := [(7, .double (kr_m2 N A)), (5, .double (kr_m2 N A)), (0, .ref b), (1, .ref h), (2, .ref h'), (3, .ref o), (4, .int (nI i))]) hx hb dL_law_1844 hl (by decide) rfl (fun ls hl => ?_)
  refine lv_dload hx hb dL_law_1846 (lv_at hl 1 rfl) ?_
  refine lv_dload hx hb dL_law_1848 (lv_at hl 0 rfl) ?_
  refine lv_dcmp hx hb dL_law_1850 ?_
  refine lv_if_eq (tgt := 1872) hx hb dL_law_1851 (by decide) (fun c1851 => ?_) (fun c1851 => absurd (kr_m2_cmp hw.1 hwe) c1851)
  refine lv_goto (tgt := 1889) hx hb dL_law_1872 (by decide) ?_
  refine W.widen (k := cells + 16) (n := slots + 112) (by omega) (by omega) ?_
  exact kT _ _ _ _ _ _ _ ls hw hwe hP hD hS (lv_sub hl [2, 3, 4, 5, 6] rfl)
theorem kg_RL_199 : GoodIn kr_all (wsV RL 199 RX0 yX0_digest (Cond.code yX0_digest cX0_digest 4 (some .long) :: kr_all)) := kr_gV kq_218 kq_219 kq_220 kq_48 kq_221
theorem kg_RL_203 : GoodIn kr_all (wsV RL 203 RX1 yX1_digest (Cond.code yX1_digest cX1_digest 9 (some .long) :: kr_all)) := kr_gV kq_803 kq_804 kq_805 kq_49 kq_806
set_option maxHeartbeats 4000000 in
set_option maxRecDepth 100000 in
theorem law_c_digest {p : Program} {l : Launch} {e : Env} {s : State} {m : MethodId} {below : List Frame} {meth : Method} {c : Code} {Q : State → Prop} {b Ls : Nat} {xs : Nat → Int32} {D : va_G} {cy cl : ClassId} {h h' o i N L : Nat} {a a' : Nat → Nat} {A : Nat → Nat → Int32} {th : Int32} {O : Nat → Int64} {H : Heap} {locs : List Loc} {cells slots : Nat} {ls : Array Slot} (C0 : lw_At p s m meth c b Ls xs) (hL9 : Ls ≤ 2048) (hl0 : l.stackTraces = false) (hT : kr_T s) (hw : kr_wf N L A) (hwe : kr_we N A) (hK : va_K D vwCl [(cy, .int), (cl, .long)] s) (hP : va_P D vwCl (kr_WW cy cl h a h' a' o N L A th N L A O) H) (hD : va_D (kr_new s) (kr_WW cy cl h a h' a' o N L A th N L A O)) (hS : va_S (kr_new s) s.heap H locs) (hi : i + 4 ≤ Ls) (hl : lv_has ls 9 [(0, .ref b), (1, .ref h), (2, .ref h'), (3, .ref o), (4, .int (nI i))]) (hf : cells + 16 ≤ 601024 ∧ slots + 112 ≤ 7293034) (kT : ∀ (N L : Nat) (A : Nat → Nat → Int32) (th : Int32) (O : Nat → Int64) (H : Heap) (locs : List Loc) (ls : Array Slot), kr_wf N L A → kr_we N A → va_P D vwCl (kr_WW cy cl h a h' a' o N L A th N L A O) H → va_D (kr_new s) (kr_WW cy cl h a h' a' o N L A th N L A O) → va_S (kr_new s) s.heap H locs → lv_has ls 9 [(0, .ref b), (1, .ref h), (2, .ref h'), (3, .ref o), (4, .int (nI i))] → W p l e room_1 s m #[Value.ref b] below meth c H locs (cells + 16) (slots + 112) Q (F0 m 1889 ls [])) : W p l e room_1 s m #[Value.ref b] below meth c H locs cells slots Q (F0 m 1875 ls []) := by
  obtain ⟨hx, hb, hr, hml, hown, hts0, hX, hbl, hlocks, hgv⟩ := id C0
  have hts : ∀ w ∈ kr_all, w.before #[Value.ref b] s = true := fun w hw => hts0 w (List.mem_filter.mp hw).1
  have hown : s.vm.findClass RL = some m.cls := hown
  have hb : c.code = cL_law := hb
  have hbA : ¬ (kr_new s) b := Nat.not_le.mpr hbl
  refine lv_aload_n hx hb dL_law_1875 rfl (lv_at hl 1 rfl) ?_
  refine kr_vL (n := 0) (As := []) (rest := []) ⟨hx, hb, hml, hown, hts⟩ (c_X0_digest l D cy h a N L A hw) kg_RL_199 ⟨rfl, rfl⟩ (by decide +kernel) ⟨Nat.le_of_ble_eq_true rfl, Nat.le_of_ble_eq_true rfl⟩ (kr_pw0 hP hK) rfl hl.1 rfl (Nat.le_of_ble_eq_true rfl) dL_law_1876 ⟨show cells ≤ 601024 by omega, show slots ≤ 7293034 by omega⟩ (fun r9 e9 => ?_)
  refine lv_aload_n hx hb dL_law_1879 rfl (lv_at hl 2 rfl) ?_
  refine kr_lawXL (n := 0) (As := []) (rest := [.long r9]) ⟨hx, hb, hml, hown, hts⟩ (c_X1_digest l D cy h' a' th N L A H.size hw) kg_RL_203 ⟨rfl, rfl⟩ (by decide +kernel) ⟨Nat.le_of_ble_eq_true rfl, Nat.le_of_ble_eq_true rfl⟩ hP hK hD hS rfl hl.1 rfl (Nat.le_of_ble_eq_true rfl) dL_law_1880 ⟨show cells + 16 ≤ 601024 by omega, show slots + 112 ≤ 7293034 by omega⟩ (fun r8 H locs e8 hP hD hS => ?_)
  rw [e9, e8]
  refine W.lcmp hx hb dL_law_1883 ?_
  refine lv_if_eq (tgt := 1889) hx hb dL_law_1884 (by decide) (fun c1884 => ?_) (fun c1884 => absurd (kr_lg _) c1884)
  refine W.widen (k := cells + 16) (n := slots + 112) (by omega) (by omega) ?_
  exact kT _ _ _ _ _ _ _ ls hw hwe hP hD hS (lv_sub hl [0, 1, 2, 3, 4] rfl)
