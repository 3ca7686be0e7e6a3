theorem kr_reff {N : Nat} {A : Nat → Nat → Int32} {k k2 : Nat} (hk : k < N) (h0 : A 0 k2 = A 0 k) (hr : kr_rk A k2 N < kr_rk A k N) : A 1 k ≤ A 1 k2 := by
  have hne : k2 ≠ k := fun w => by rw [w] at hr; omega
  rcases kr_ia_to (A := A) hne with h | h
  · rw [kr_ia_iff] at h
    rw [Int32.le_iff_toInt_le]; omega
  · have := kr_rk_lt hk (show kr_ah A k k2 from ⟨h0.symm, h⟩)
    omega
/-- which loads a knot's form is none at -/
theorem kr_fz {N L : Nat} {A : Nat → Nat → Int32} {k : Nat} (hw : kr_wf N L A) (hk : k < N) : ∃ z, z ≤ 999 ∧ kr_fa A 16 (nI k) 0 = nI z ∧ ∀ d, d ≤ 999 → (kr_fm A (nI d) 16 (nI k) = -1 ↔ 0 < z ∧ z ≤ d) := by
  obtain ⟨z, hz, ez, h0, h1⟩ := kr_pf5 hw k hk 0 (by omega)
  refine ⟨z, hz, ez, fun d hd => ?_⟩
  by_cases e : z = 0
  · exact ⟨fun w => absurd w (h0 e d hd), fun w => absurd w.1 (by omega)⟩
  · have h2 := (h1 (by omega)).2 d hd
    exact ⟨fun w => ⟨by omega, h2.mp ⟨w, Nat.zero_le _⟩⟩, fun w => (h2.mpr w.2).1⟩
theorem kg_RL_85 : GoodIn kr_all (wsV RL 85 RX0 yX0_knotsOf (Cond.code yX0_knotsOf cX0_knotsOf 2 (some .int) :: kr_all)) := kr_gV kq_249 kq_250 kq_251 kq_25 kq_252
theorem kg_RL_89 : GoodIn kr_all (wsV RL 89 RX0 yX0_knotAt (Cond.code yX0_knotAt cX0_knotAt 4 (some .int) :: kr_all)) := kr_gV kq_289 kq_290 kq_291 kq_25 kq_292
theorem kg_RL_92 : GoodIn kr_all (wsV RL 92 RX0 yX0_kindOf (Cond.code yX0_kindOf cX0_kindOf 2 (some .int) :: kr_all)) := kr_gV kq_261 kq_262 kq_263 kq_25 kq_264
theorem kg_RL_95 : GoodIn kr_all (wsV RL 95 RX0 yX0_rankOf (Cond.code yX0_rankOf cX0_rankOf 2 (some .int) :: kr_all)) := kr_gV kq_277 kq_278 kq_279 kq_25 kq_280
theorem kg_RL_98 : GoodIn kr_all (wsV RL 98 RX0 yX0_efficiencyOf (Cond.code yX0_efficiencyOf cX0_efficiencyOf 2 (some .int) :: kr_all)) := kr_gV kq_265 kq_266 kq_267 kq_25 kq_268
set_option maxHeartbeats 4000000 in
set_option maxRecDepth 100000 in
theorem law_ranks {p : Program} {l : Launch} {e : Env} {s : State} {m : MethodId} {below : List Frame} {meth : Method} {c : Code} {ls : Array Slot} {D : va_G} {cy cz : ClassId} {h g b N L t ld mo q : Nat} {a : Nat → Nat} {ad : Nat → Nat → Nat} {A : Nat → Nat → Int32} {x : Int32} {dg : Int64} {H : Heap} {locs : List Loc} {cells slots : Nat} {Q : State → Prop} (hx : p.tables.exec = Jvm.exec) (hb : c.code = cL_law) (hml : c.maxLocals = 22) (hts : ∀ w ∈ kr_all, w.before #[Value.ref b] s = true) (hown : s.vm.findClass RL = some m.cls) (hK : va_K D vwCl [(cy, .int), (cz, .array .int)] s) (hw : kr_wf N L A) (hx0 : kr_wx N L A) (hN2 : 2 ≤ N) (hL1 : 1 ≤ L) (hJ : va_P D vwCl (kr_JW cy cz h a g ad N L A) H) (hc9 : cells ≤ 5000) (hs9 : slots ≤ 50000) (hl : lv_has ls 22 [(0, .ref b), (1, .ref h), (2, .ref g), (3, .int (nI t)), (4, .int x), (5, .long dg), (7, .int (nI N)), (8, .int (nI 0))]) (kk : ∀ ls : Array Slot, lv_has ls 22 [(0, .ref b), (1, .ref h), (2, .ref g), (3, .int (nI t)), (4, .int x), (5, .long dg), (7, .int (nI N))] → W p l e room_1 s m #[Value.ref b] below meth c H locs cells slots Q (F0 m 191 ls [])) : W p l e room_1 s m #[Value.ref b] below meth c H locs cells slots Q (F0 m 97 ls []) := by
  have hN := hw.1
  have hL := hw.2.1
  have hK0 : va_K D vwCl [(cy, .int)] s := hK.sub [0] rfl
  have hPc : va_P D vwCl (kr_W0 cy h a N L A) H := kr_Pl hJ
  have hP : va_P D vwCl (kr_SW cy cz g ad N L A) H := kr_Pr hJ
  refine kr_lp (nL := 22) (fun z : Nat => [(0, .ref b), (1, .ref h), (2, .ref g), (3, .int (nI t)), (4, .int x), (5, .long dg), (7, .int (nI N)), (8, .int (nI z))]) (fun z => z ≤ 2) (fun z => 2 - z) ?_ (0) (Nat.zero_le _) (lv_sub hl [0, 1, 2, 3, 4, 5, 6, 7] rfl)
  clear hl
  intro z ls hI hl ih
  obtain ⟨kd, rfl⟩ : ∃ y, y = z := ⟨_, rfl⟩
  have hl : lv_has ls 22 [(0, .ref b), (1, .ref h), (2, .ref g), (3, .int (nI t)), (4, .int x), (5, .long dg), (7, .int (nI N)), (8, .int (nI kd))] := hl
  obtain hkd9 : kd ≤ 2 := hI
  refine lv_iload hx hb dL_law_97 (lv_at hl 7 rfl) ?_
  refine lv_iconst (v := 2) hx hb dL_law_99 (by decide) ?_
  refine lv_icmp_ge (tgt := 191) hx hb dL_law_100 (by decide) (fun c100 => ?_) (fun c100 => ?_)
  · exact kk _ (lv_sub hl [0, 1, 2, 3, 4, 5, 6] rfl)
  · have hkd : kd < 2 := kr_lt (a := kd) (b := 2) (by omega) (by decide) c100
    have hkd2 : nI kd = 0 ∨ nI kd = 1 := by rcases (show kd = 0 ∨ kd = 1 by omega) with e | e; rw [e]; exact Or.inl rfl; rw [e]; exact Or.inr rfl
    have hcn := kr_cn_le (A := A) (kd := nI kd) N
    refine lv_iconst (v := 0) hx hb dL_law_103 (by decide) ?_
    refine lv_istore (lv' := [(9, .int 0), (0, .ref b), (1, .ref h), (2, .ref g), (3, .int (nI t)), (4, .int x), (5, .long dg), (7, .int (nI N)), (8, .int (nI kd))]) hx hb dL_law_104 hl (by decide) rfl (fun ls hl => ?_)
    have ihK := ih
    refine kr_lp (nL := 22) (fun z : Nat => [(9, .int (nI z)), (0, .ref b), (1, .ref h), (2, .ref g), (3, .int (nI t)), (4, .int x), (5, .long dg), (7, .int (nI N)), (8, .int (nI kd))]) (fun z => z ≤ kr_cn A (nI kd) N) (fun z => kr_cn A (nI kd) N - z) ?_ (0) (Nat.zero_le _) (lv_sub hl [0, 1, 2, 3, 4, 5, 6, 7, 8] rfl)
    clear hl
    intro z ls hI hl ih
    obtain ⟨r, rfl⟩ : ∃ y, y = z := ⟨_, rfl⟩
    have hl : lv_has ls 22 [(9, .int (nI r)), (0, .ref b), (1, .ref h), (2, .ref g), (3, .int (nI t)), (4, .int x), (5, .long dg), (7, .int (nI N)), (8, .int (nI kd))] := hl
    obtain hr9 : r ≤ kr_cn A (nI kd) N := hI
    refine lv_iload hx hb dL_law_106 (lv_at hl 0 rfl) ?_
    refine lv_aload_n hx hb dL_law_108 rfl (lv_at hl 2 rfl) ?_
    refine lv_iload hx hb dL_law_109 (lv_at hl 8 rfl) ?_
    refine kr_vI (n := 1) (As := [.int (nI kd)]) (rest := [.int (nI r)]) ⟨hx, hb, hml, hown, hts⟩ (c_X0_knotsOf l D cy h a N L A (nI kd) hN hkd2) kg_RL_85 ⟨rfl, rfl⟩ (by decide +kernel) ⟨Nat.le_of_ble_eq_true rfl, Nat.le_of_ble_eq_true rfl⟩ (kr_pv0 hPc hK0) rfl hl.1 rfl (Nat.le_of_ble_eq_true rfl) dL_law_111 ⟨show cells + 0 ≤ 960946 by omega, show slots + 0 ≤ 6218629 by omega⟩ (fun r9 e9 => ?_)
    subst e9
    refine lv_icmp_ge (tgt := 185) hx hb dL_law_114 (by decide) (fun c114 => ?_) (fun c114 => ?_)
    · refine lv_iinc (v := nI (kd + 1)) (lv' := [(8, .int (nI (kd + 1))), (9, .int (nI r)), (0, .ref b), (1, .ref h), (2, .ref g), (3, .int (nI t)), (4, .int x), (5, .long dg), (7, .int (nI N))]) hx hb dL_law_185 hl (k := 8) rfl (kr_inc _) (by decide) rfl (fun ls hl => ?_)
      refine lv_goto (tgt := 97) hx hb dL_law_188 (by decide) ?_
      exact ihK (kd + 1) ls (show kd + 1 ≤ 2 by omega) (by show 2 - (kd + 1) < 2 - kd; omega) (lv_sub hl [2, 3, 4, 5, 6, 7, 8, 0] rfl)
    · have hr : r < kr_cn A (nI kd) N := kr_lt (a := r) (b := kr_cn A (nI kd) N) (by omega) (by omega) c114
      obtain ⟨k, hk, hk0, hkr⟩ := kr_rk_on hr
      have ekw : kr_kw A N (nI kd) (nI r) N 0 = nI k := by rw [← hkr]; exact kr_kw_at hN hk hk0
      refine lv_aload_n hx hb dL_law_117 rfl (lv_at hl 2 rfl) ?_
      refine lv_iload hx hb dL_law_118 (lv_at hl 8 rfl) ?_
      refine lv_iload hx hb dL_law_120 (lv_at hl 0 rfl) ?_
      refine kr_vI (n := 2) (As := [.int (nI kd), .int (nI r)]) (rest := []) ⟨hx, hb, hml, hown, hts⟩ (c_X0_knotAt l D cy h a N L A (nI kd) (nI r) hN hkd2 (by rw [ekw]; exact kr_kn_ne (by omega))) kg_RL_89 ⟨rfl, rfl⟩ (by decide +kernel) ⟨Nat.le_of_ble_eq_true rfl, Nat.le_of_ble_eq_true rfl⟩ (kr_pv0 hPc hK0) rfl hl.1 rfl (Nat.le_of_ble_eq_true rfl) dL_law_122 ⟨show cells + 0 ≤ 960946 by omega, show slots + 0 ≤ 6218629 by omega⟩ (fun r9 e9 => ?_)
      subst e9
      rw [ekw]
      refine lv_istore (lv' := [(10, .int (nI k)), (9, .int (nI r)), (0, .ref b), (1, .ref h), (2, .ref g), (3, .int (nI t)), (4, .int x), (5, .long dg), (7, .int (nI N)), (8, .int (nI kd))]) hx hb dL_law_125 hl (by decide) rfl (fun ls hl => ?_)
      refine lv_aload_n hx hb dL_law_127 rfl (lv_at hl 3 rfl) ?_
      refine lv_iload hx hb dL_law_128 (lv_at hl 0 rfl) ?_
      refine kr_vI (n := 1) (As := [.int (nI k)]) (rest := []) ⟨hx, hb, hml, hown, hts⟩ (c_X0_kindOf l D cy h a N L A k hN (by omega)) kg_RL_92 ⟨rfl, rfl⟩ (by decide +kernel) ⟨Nat.le_of_ble_eq_true rfl, Nat.le_of_ble_eq_true rfl⟩ (kr_pv0 hPc hK0) rfl hl.1 rfl (Nat.le_of_ble_eq_true rfl) dL_law_130 ⟨show cells + 0 ≤ 960946 by omega, show slots + 0 ≤ 6218629 by omega⟩ (fun r9 e9 => ?_)
      subst e9
      refine lv_iload hx hb dL_law_133 (lv_at hl 9 rfl) ?_
      refine lv_icmp_ne (tgt := 177) hx hb dL_law_135 (by decide) (fun c135 => absurd hk0 c135) (fun c135 => ?_)
      refine lv_aload_n hx hb dL_law_138 rfl (lv_at hl 3 rfl) ?_
      refine lv_iload hx hb dL_law_139 (lv_at hl 0 rfl) ?_
      refine kr_vI (n := 1) (As := [.int (nI k)]) (rest := []) ⟨hx, hb, hml, hown, hts⟩ (c_X0_rankOf l D cy h a N L A k hN (by omega)) kg_RL_95 ⟨rfl, rfl⟩ (by decide +kernel) ⟨Nat.le_of_ble_eq_true rfl, Nat.le_of_ble_eq_true rfl⟩ (kr_pv0 hPc hK0) rfl hl.1 rfl (Nat.le_of_ble_eq_true rfl) dL_law_141 ⟨show cells + 0 ≤ 960946 by omega, show slots + 0 ≤ 6218629 by omega⟩ (fun r9 e9 => ?_)
      subst e9
      rw [hkr]
      refine lv_iload hx hb dL_law_144 (lv_at hl 1 rfl) ?_
      refine lv_icmp_ne (tgt := 177) hx hb dL_law_146 (by decide) (fun c146 => absurd rfl c146) (fun c146 => ?_)
      refine lv_iload hx hb dL_law_149 (lv_at hl 1 rfl) ?_
      refine lv_if_le (tgt := 179) hx hb dL_law_151 (by decide) (fun c151 => ?_) (fun c151 => ?_)
      · refine lv_iinc (v := nI (r + 1)) (lv' := [(9, .int (nI (r + 1))), (10, .int (nI k)), (0, .ref b), (1, .ref h), (2, .ref g), (3, .int (nI t)), (4, .int x), (5, .long dg), (7, .int (nI N)), (8, .int (nI kd))]) hx hb dL_law_179 hl (k := 1) rfl (kr_inc _) (by decide) rfl (fun ls hl => ?_)
        refine lv_goto (tgt := 106) hx hb dL_law_182 (by decide) ?_
        exact ih (r + 1) ls (show r + 1 ≤ kr_cn A (nI kd) N by omega) (by show kr_cn A (nI kd) N - (r + 1) < kr_cn A (nI kd) N - r; omega) (lv_sub hl [0, 2, 3, 4, 5, 6, 7, 8, 9] rfl)
      · have hr0 : 0 < r := Nat.pos_of_ne_zero (fun w => c151 (by rw [w]; decide))
        obtain ⟨k2, hk2, hk20, hkr2⟩ := kr_rk_on (A := A) (N := N) (kd := nI kd) (r := r - 1) (by omega)
        have ekw2 : kr_kw A N (nI kd) (nI (r - 1)) N 0 = nI k2 := by rw [← hkr2]; exact kr_kw_at hN hk2 hk20
        refine lv_aload_n hx hb dL_law_154 rfl (lv_at hl 3 rfl) ?_
        refine lv_iload hx hb dL_law_155 (lv_at hl 0 rfl) ?_
        refine kr_vI (n := 1) (As := [.int (nI k)]) (rest := []) ⟨hx, hb, hml, hown, hts⟩ (c_X0_efficiencyOf l D cy h a N L A k hN (by omega)) kg_RL_98 ⟨rfl, rfl⟩ (by decide +kernel) ⟨Nat.le_of_ble_eq_true rfl, Nat.le_of_ble_eq_true rfl⟩ (kr_pv0 hPc hK0) rfl hl.1 rfl (Nat.le_of_ble_eq_true rfl) dL_law_157 ⟨show cells + 0 ≤ 960946 by omega, show slots + 0 ≤ 6218629 by omega⟩ (fun r9 e9 => ?_)
        subst e9
        refine lv_aload_n hx hb dL_law_160 rfl (lv_at hl 3 rfl) ?_
        refine lv_aload_n hx hb dL_law_161 rfl (lv_at hl 3 rfl) ?_
        refine lv_iload hx hb dL_law_162 (lv_at hl 9 rfl) ?_
        refine lv_iload hx hb dL_law_164 (lv_at hl 1 rfl) ?_
        refine lv_iconst (v := 1) hx hb dL_law_166 (by decide) ?_
        refine kr_isubN hx hb r 1 (by omega) dL_law_167 ?_
        refine kr_vI (n := 2) (As := [.int (nI kd), .int (nI (r - 1))]) (rest := [.ref h, .int (A 1 k)]) ⟨hx, hb, hml, hown, hts⟩ (c_X0_knotAt l D cy h a N L A (nI kd) (nI (r - 1)) hN hkd2 (by rw [ekw2]; exact kr_kn_ne (by omega))) kg_RL_89 ⟨rfl, rfl⟩ (by decide +kernel) ⟨Nat.le_of_ble_eq_true rfl, Nat.le_of_ble_eq_true rfl⟩ (kr_pv0 hPc hK0) rfl hl.1 rfl (Nat.le_of_ble_eq_true rfl) dL_law_168 ⟨show cells + 0 ≤ 960946 by omega, show slots + 0 ≤ 6218629 by omega⟩ (fun r9 e9 => ?_)
        subst e9
        rw [ekw2]
        refine kr_vI (n := 1) (As := [.int (nI k2)]) (rest := [.int (A 1 k)]) ⟨hx, hb, hml, hown, hts⟩ (c_X0_efficiencyOf l D cy h a N L A k2 hN (by omega)) kg_RL_98 ⟨rfl, rfl⟩ (by decide +kernel) ⟨Nat.le_of_ble_eq_true rfl, Nat.le_of_ble_eq_true rfl⟩ (kr_pv0 hPc hK0) rfl hl.1 rfl (Nat.le_of_ble_eq_true rfl) dL_law_171 ⟨show cells + 0 ≤ 960946 by omega, show slots + 0 ≤ 6218629 by omega⟩ (fun r9 e9 => ?_)
        subst e9
        refine lv_icmp_le (tgt := 179) hx hb dL_law_174 (by decide) (fun c174 => ?_) (fun c174 => absurd (kr_reff hk (hk20.trans hk0.symm) (by omega)) c174)
        refine lv_iinc (v := nI (r + 1)) (lv' := [(9, .int (nI (r + 1))), (10, .int (nI k)), (0, .ref b), (1, .ref h), (2, .ref g), (3, .int (nI t)), (4, .int x), (5, .long dg), (7, .int (nI N)), (8, .int (nI kd))]) hx hb dL_law_179 hl (k := 1) rfl (kr_inc _) (by decide) rfl (fun ls hl => ?_)
        refine lv_goto (tgt := 106) hx hb dL_law_182 (by decide) ?_
        exact ih (r + 1) ls (show r + 1 ≤ kr_cn A (nI kd) N by omega) (by show kr_cn A (nI kd) N - (r + 1) < kr_cn A (nI kd) N - r; omega) (lv_sub hl [0, 2, 3, 4, 5, 6, 7, 8, 9] rfl)
theorem kr_m1lt9 {k : Nat} (h : k < 2 ^ 30) : (-1 : Int32) < nI k := kr_m1lt h
theorem kg_RL_106 : GoodIn kr_all (wsV RL 106 RX0 yX0_formOf (Cond.code yX0_formOf cX0_formOf 3 (some .int) :: kr_all)) := kr_gV kq_298 kq_299 kq_300 kq_25 kq_301
theorem kg_RL_109 : GoodIn kr_all (wsV RL 109 RX0 yX0_fallsApartAt (Cond.code yX0_fallsApartAt cX0_fallsApartAt 5 (some .int) :: kr_all)) := kr_gV kq_306 kq_307 kq_308 kq_25 kq_309
theorem kg_RL_118 : GoodIn kr_all (wsV RL 118 RX0 yX0_spillsInto (Cond.code yX0_spillsInto cX0_spillsInto 2 (some .int) :: kr_all)) := kr_gV kq_273 kq_274 kq_275 kq_25 kq_276
theorem kg_RL_112 : GoodIn kr_all (wsV RL 112 RX0 yX0_spillsAt (Cond.code yX0_spillsAt cX0_spillsAt 2 (some .int) :: kr_all)) := kr_gV kq_269 kq_270 kq_271 kq_25 kq_272
theorem kg_RL_115 : GoodIn kr_all (wsV RL 115 RX0 yX0_spills (Cond.code yX0_spills cX0_spills 5 (some .int) :: kr_all)) := kr_gV kq_302 kq_303 kq_304 kq_25 kq_305
set_option maxHeartbeats 4000000 in
set_option maxRecDepth 100000 in
theorem law_knots {p : Program} {l : Launch} {e : Env} {s : State} {m : MethodId} {below : List Frame} {meth : Method} {c : Code} {ls : Array Slot} {D : va_G} {cy cz : ClassId} {h g b N L t ld mo q : Nat} {a : Nat → Nat} {ad : Nat → Nat → Nat} {A : Nat → Nat → Int32} {x : Int32} {dg : Int64} {H : Heap} {locs : List Loc} {cells slots : Nat} {Q : State → Prop} (hx : p.tables.exec = Jvm.exec) (hb : c.code = cL_law) (hml : c.maxLocals = 22) (hts : ∀ w ∈ kr_all, w.before #[Value.ref b] s = true) (hown : s.vm.findClass RL = some m.cls) (hK : va_K D vwCl [(cy, .int), (cz, .array .int)] s) (hw : kr_wf N L A) (hx0 : kr_wx N L A) (hN2 : 2 ≤ N) (hL1 : 1 ≤ L) (hJ : va_P D vwCl (kr_JW cy cz h a g ad N L A) H) (hc9 : cells ≤ 5000) (hs9 : slots ≤ 50000) (hld1 : 1 ≤ ld) (hld2 : ld ≤ 999) (hlm0 : ld ≤ mo) (hmo2 : mo ≤ 999) (hl : lv_has ls 22 [(0, .ref b), (1, .ref h), (2, .ref g), (3, .int (nI t)), (4, .int x), (5, .long dg), (7, .int (nI N)), (8, .int (nI ld)), (9, .int (nI mo)), (10, .int (nI 0))]) (kk : ∀ ls : Array Slot, lv_has ls 22 [(0, .ref b), (1, .ref h), (2, .ref g), (3, .int (nI t)), (4, .int x), (5, .long dg), (8, .int (nI ld))] → W p l e room_1 s m #[Value.ref b] below meth c H locs cells slots Q (F0 m 484 ls [])) : W p l e room_1 s m #[Value.ref b] below meth c H locs cells slots Q (F0 m 229 ls []) := by
  have hN := hw.1
  have hL := hw.2.1
  have hK0 : va_K D vwCl [(cy, .int)] s := hK.sub [0] rfl
  have hPc : va_P D vwCl (kr_W0 cy h a N L A) H := kr_Pl hJ
  have hP : va_P D vwCl (kr_SW cy cz g ad N L A) H := kr_Pr hJ
  have hld := kr_rgN (z := ld) (lo := 1) (hi := 999) hld1 hld2 (by decide)
  have hmo := kr_rgN (z := mo) (lo := 1) (hi := 999) (by omega) hmo2 (by decide)
  have hlm : nI ld ≤ nI mo := nI_le hlm0 (by omega)
  refine kr_lp (nL := 22) (fun z : Nat => [(0, .ref b), (1, .ref h), (2, .ref g), (3, .int (nI t)), (4, .int x), (5, .long dg), (7, .int (nI N)), (8, .int (nI ld)), (9, .int (nI mo)), (10, .int (nI z))]) (fun z => z ≤ N) (fun z => N - z) ?_ (0) (Nat.zero_le _) (lv_sub hl [0, 1, 2, 3, 4, 5, 6, 7, 8, 9] rfl)
  clear hl
  intro z ls hI hl ih
  obtain ⟨k, rfl⟩ : ∃ y, y = z := ⟨_, rfl⟩
  have hl : lv_has ls 22 [(0, .ref b), (1, .ref h), (2, .ref g), (3, .int (nI t)), (4, .int x), (5, .long dg), (7, .int (nI N)), (8, .int (nI ld)), (9, .int (nI mo)), (10, .int (nI k))] := hl
  obtain hk9 : k ≤ N := hI
  refine lv_iload hx hb dL_law_229 (lv_at hl 9 rfl) ?_
  refine lv_iload hx hb dL_law_231 (lv_at hl 6 rfl) ?_
  refine lv_icmp_ge (tgt := 484) hx hb dL_law_233 (by decide) (fun c233 => ?_) (fun c233 => ?_)
  · exact kk _ (lv_sub hl [0, 1, 2, 3, 4, 5, 7] rfl)
  · have hk : k < N := kr_lt (a := k) (b := N) (by omega) (by omega) c233
    refine lv_aload_n hx hb dL_law_236 rfl (lv_at hl 1 rfl) ?_
    refine lv_iload hx hb dL_law_237 (lv_at hl 9 rfl) ?_
    refine lv_iload hx hb dL_law_239 (lv_at hl 7 rfl) ?_
    refine kr_vI (n := 2) (As := [.int (nI k), .int (nI ld)]) (rest := []) ⟨hx, hb, hml, hown, hts⟩ (c_X0_formOf l D cy h a N L A k (nI ld) hw (by omega) hld) kg_RL_106 ⟨rfl, rfl⟩ (by decide +kernel) ⟨Nat.le_of_ble_eq_true rfl, Nat.le_of_ble_eq_true rfl⟩ (kr_pv0 hPc hK0) rfl hl.1 rfl (Nat.le_of_ble_eq_true rfl) dL_law_241 ⟨show cells + 0 ≤ 960946 by omega, show slots + 0 ≤ 6218629 by omega⟩ (fun r9 e9 => ?_)
    subst e9
    have hF0 := kr_pf1 (ld := nI ld) hw hx0 k hk
    have hF2 := kr_pf2 (ld := nI ld) hw hx0 hk
    have hF4 := kr_pf4 hw hlm k hk
    obtain ⟨z, hz, ez, hzd⟩ := kr_fz hw hk
    have hzl := hzd ld hld2
    generalize hfm : kr_fm A (nI ld) 16 (nI k) = fm at hF0 hF2 hF4 hzl ⊢
    refine lv_istore (lv' := [(11, .int fm), (0, .ref b), (1, .ref h), (2, .ref g), (3, .int (nI t)), (4, .int x), (5, .long dg), (7, .int (nI N)), (8, .int (nI ld)), (9, .int (nI mo)), (10, .int (nI k))]) hx hb dL_law_244 hl (by decide) rfl (fun ls hl => ?_)
    refine lv_aload_n hx hb dL_law_246 rfl (lv_at hl 2 rfl) ?_
    refine lv_iload hx hb dL_law_247 (lv_at hl 10 rfl) ?_
    refine kr_vI (n := 1) (As := [.int (nI k)]) (rest := []) ⟨hx, hb, hml, hown, hts⟩ (c_X0_fallsApartAt l D cy h a N L A k hw (by omega)) kg_RL_109 ⟨rfl, rfl⟩ (by decide +kernel) ⟨Nat.le_of_ble_eq_true rfl, Nat.le_of_ble_eq_true rfl⟩ (kr_pv0 hPc hK0) rfl hl.1 rfl (Nat.le_of_ble_eq_true rfl) dL_law_249 ⟨show cells + 0 ≤ 960946 by omega, show slots + 0 ≤ 6218629 by omega⟩ (fun r9 e9 => ?_)
    subst e9
    rw [ez]
    refine lv_istore (lv' := [(12, .int (nI z)), (11, .int fm), (0, .ref b), (1, .ref h), (2, .ref g), (3, .int (nI t)), (4, .int x), (5, .long dg), (7, .int (nI N)), (8, .int (nI ld)), (9, .int (nI mo)), (10, .int (nI k))]) hx hb dL_law_252 hl (by decide) rfl (fun ls hl => ?_)
    have hsp1 := kr_sp_le (A := A) (ld := nI ld) 16 (nI k)
    have hsp2 := kr_sp_le (A := A) (ld := nI mo) 16 (nI k)
    have hsp3 := kr_pf3 hw hlm k hk
    refine kr_cut (pcJ := 369) (stJ := []) ?_ (fun key369 => ?_)
    · refine lv_iload hx hb dL_law_369 (lv_at hl 0 rfl) ?_
      refine lv_if_lt (tgt := 476) hx hb dL_law_371 (by decide) (fun c371 => absurd c371 (nI_pos (by omega))) (fun c371 => ?_)
      refine lv_iload hx hb dL_law_374 (lv_at hl 0 rfl) ?_
      refine lv_sipush (v := 999) hx hb dL_law_376 (by decide) ?_
      refine lv_icmp_gt (tgt := 476) hx hb dL_law_379 (by decide) (fun c379 => absurd c379 (nI_nlt (a := 999) (b := z) hz (by decide))) (fun c379 => ?_)
      refine lv_iload hx hb dL_law_382 (lv_at hl 0 rfl) ?_
      refine kr_jn (pcJ := 399) (stJ := []) (fun v => v = if fm = -1 then (1 : Int32) else 0) (fun v hv => ?_) (fun kJ => ?_)
      · subst hv
        refine lv_iload hx hb dL_law_399 (lv_at hl 1 rfl) ?_
        refine lv_if_ge (tgt := 408) hx hb dL_law_401 (by decide) (fun c401 => ?_) (fun c401 => ?_)
        · rw [if_neg (show ¬ fm = -1 from fun w => by rw [w] at c401; exact absurd c401 (by decide))]
          refine lv_iconst (v := 0) hx hb dL_law_408 (by decide) ?_
          refine lv_icmp_ne (tgt := 476) hx hb dL_law_409 (by decide) (fun c409 => absurd rfl c409) (fun c409 => ?_)
          refine kr_cut (pcJ := 428) (stJ := []) ?_ (fun key428 => ?_)
          · refine kr_cut (pcJ := 447) (stJ := []) ?_ (fun key447 => ?_)
            · refine lv_aload_n hx hb dL_law_447 rfl (lv_at hl 3 rfl) ?_
              refine lv_iload hx hb dL_law_448 (lv_at hl 11 rfl) ?_
              refine kr_vI (n := 1) (As := [.int (nI k)]) (rest := []) ⟨hx, hb, hml, hown, hts⟩ (c_X0_spillsInto l D cy h a N L A k hN (by omega)) kg_RL_118 ⟨rfl, rfl⟩ (by decide +kernel) ⟨Nat.le_of_ble_eq_true rfl, Nat.le_of_ble_eq_true rfl⟩ (kr_pv0 hPc hK0) rfl hl.1 rfl (Nat.le_of_ble_eq_true rfl) dL_law_450 ⟨show cells + 0 ≤ 960946 by omega, show slots + 0 ≤ 6218629 by omega⟩ (fun r9 e9 => ?_)
              subst e9
              refine lv_iload hx hb dL_law_453 (lv_at hl 11 rfl) ?_
              refine lv_icmp_ge (tgt := 476) hx hb dL_law_455 (by decide) (fun c455 => absurd c455 (by rcases (hw.2.2.1 k hk).2.1 with w | ⟨j, j1, w⟩; rw [w]; exact fun w9 => Int32.lt_irrefl (Int32.lt_of_le_of_lt w9 (kr_m1lt9 (k := k) (by omega))); rw [w]; exact nI_ge (by omega) (by omega))) (fun c455 => ?_)
              refine lv_aload_n hx hb dL_law_458 rfl (lv_at hl 3 rfl) ?_
              refine lv_iload hx hb dL_law_459 (lv_at hl 11 rfl) ?_
              refine kr_vI (n := 1) (As := [.int (nI k)]) (rest := []) ⟨hx, hb, hml, hown, hts⟩ (c_X0_spillsAt l D cy h a N L A k hN (by omega)) kg_RL_112 ⟨rfl, rfl⟩ (by decide +kernel) ⟨Nat.le_of_ble_eq_true rfl, Nat.le_of_ble_eq_true rfl⟩ (kr_pv0 hPc hK0) rfl hl.1 rfl (Nat.le_of_ble_eq_true rfl) dL_law_461 ⟨show cells + 0 ≤ 960946 by omega, show slots + 0 ≤ 6218629 by omega⟩ (fun r9 e9 => ?_)
              subst e9
              refine lv_if_ne (tgt := 478) hx hb dL_law_464 (by decide) (fun c464 => ?_) (fun c464 => ?_)
              · refine lv_iinc (v := nI (k + 1)) (lv' := [(10, .int (nI (k + 1))), (12, .int (nI z)), (11, .int fm), (0, .ref b), (1, .ref h), (2, .ref g), (3, .int (nI t)), (4, .int x), (5, .long dg), (7, .int (nI N)), (8, .int (nI ld)), (9, .int (nI mo))]) hx hb dL_law_478 hl (k := 11) rfl (kr_inc _) (by decide) rfl (fun ls hl => ?_)
                refine lv_goto (tgt := 229) hx hb dL_law_481 (by decide) ?_
                exact ih (k + 1) ls (show k + 1 ≤ N by omega) (by show N - (k + 1) < N - k; omega) (lv_sub hl [3, 4, 5, 6, 7, 8, 9, 10, 11, 0] rfl)
              · refine lv_aload_n hx hb dL_law_467 rfl (lv_at hl 3 rfl) ?_
                refine lv_iload hx hb dL_law_468 (lv_at hl 11 rfl) ?_
                refine kr_vI (n := 1) (As := [.int (nI k)]) (rest := []) ⟨hx, hb, hml, hown, hts⟩ (c_X0_spillsInto l D cy h a N L A k hN (by omega)) kg_RL_118 ⟨rfl, rfl⟩ (by decide +kernel) ⟨Nat.le_of_ble_eq_true rfl, Nat.le_of_ble_eq_true rfl⟩ (kr_pv0 hPc hK0) rfl hl.1 rfl (Nat.le_of_ble_eq_true rfl) dL_law_470 ⟨show cells + 0 ≤ 960946 by omega, show slots + 0 ≤ 6218629 by omega⟩ (fun r9 e9 => ?_)
                subst e9
                refine lv_if_lt (tgt := 478) hx hb dL_law_473 (by decide) (fun c473 => ?_) (fun c473 => absurd (by rw [(hw.2.2.1 k hk).2.2.2 c464]; decide) c473)
                refine lv_iinc (v := nI (k + 1)) (lv' := [(10, .int (nI (k + 1))), (12, .int (nI z)), (11, .int fm), (0, .ref b), (1, .ref h), (2, .ref g), (3, .int (nI t)), (4, .int x), (5, .long dg), (7, .int (nI N)), (8, .int (nI ld)), (9, .int (nI mo))]) hx hb dL_law_478 hl (k := 11) rfl (kr_inc _) (by decide) rfl (fun ls hl => ?_)
                refine lv_goto (tgt := 229) hx hb dL_law_481 (by decide) ?_
                exact ih (k + 1) ls (show k + 1 ≤ N by omega) (by show N - (k + 1) < N - k; omega) (lv_sub hl [3, 4, 5, 6, 7, 8, 9, 10, 11, 0] rfl)
            · refine lv_iload hx hb dL_law_428 (lv_at hl 0 rfl) ?_
              refine lv_iconst (v := 1) hx hb dL_law_430 (by decide) ?_
              refine lv_icmp_le (tgt := 447) hx hb dL_law_431 (by decide) (fun c431 => ?_) (fun c431 => ?_)
              · exact key447
              · have hz1 : 1 < z := by have := mt (fun w => nI_le (a := z) (b := 1) w (by decide)) c431; omega
                refine lv_aload_n hx hb dL_law_434 rfl (lv_at hl 3 rfl) ?_
                refine lv_iload hx hb dL_law_435 (lv_at hl 11 rfl) ?_
                refine lv_iload hx hb dL_law_437 (lv_at hl 0 rfl) ?_
                refine lv_iconst (v := 1) hx hb dL_law_439 (by decide) ?_
                refine kr_isubN hx hb z 1 (by omega) dL_law_440 ?_
                refine kr_vI (n := 2) (As := [.int (nI k), .int (nI (z - 1))]) (rest := []) ⟨hx, hb, hml, hown, hts⟩ (c_X0_formOf l D cy h a N L A k (nI (z - 1)) hw (by omega) (kr_rgN (z := z - 1) (lo := 1) (hi := 999) (by omega) (by omega) (by decide))) kg_RL_106 ⟨rfl, rfl⟩ (by decide +kernel) ⟨Nat.le_of_ble_eq_true rfl, Nat.le_of_ble_eq_true rfl⟩ (kr_pv0 hPc hK0) rfl hl.1 rfl (Nat.le_of_ble_eq_true rfl) dL_law_441 ⟨show cells + 0 ≤ 960946 by omega, show slots + 0 ≤ 6218629 by omega⟩ (fun r9 e9 => ?_)
                subst e9
                have hnn : ¬ kr_fm A (nI (z - 1)) 16 (nI k) < 0 := by
                  rcases kr_pf1 (ld := nI (z - 1)) hw hx0 k hk with w | ⟨j, j1, w, -⟩
                  · have := ((hzd (z - 1) (by omega)).mp w).2; omega
                  · rw [w]; exact nI_pos (by omega)
                refine lv_if_lt (tgt := 476) hx hb dL_law_444 (by decide) (fun c444 => absurd c444 hnn) (fun c444 => ?_)
                exact key447
          · refine lv_iload hx hb dL_law_412 (lv_at hl 0 rfl) ?_
            refine lv_if_le (tgt := 428) hx hb dL_law_414 (by decide) (fun c414 => ?_) (fun c414 => ?_)
            · exact key428
            · have hz0 : 0 < z := kr_lt (a := 0) (b := z) (by decide) (by omega) c414
              refine lv_aload_n hx hb dL_law_417 rfl (lv_at hl 3 rfl) ?_
              refine lv_iload hx hb dL_law_418 (lv_at hl 11 rfl) ?_
              refine lv_iload hx hb dL_law_420 (lv_at hl 0 rfl) ?_
              refine kr_vI (n := 2) (As := [.int (nI k), .int (nI z)]) (rest := []) ⟨hx, hb, hml, hown, hts⟩ (c_X0_formOf l D cy h a N L A k (nI z) hw (by omega) (kr_rgN (z := z) (lo := 1) (hi := 999) (by omega) (by omega) (by decide))) kg_RL_106 ⟨rfl, rfl⟩ (by decide +kernel) ⟨Nat.le_of_ble_eq_true rfl, Nat.le_of_ble_eq_true rfl⟩ (kr_pv0 hPc hK0) rfl hl.1 rfl (Nat.le_of_ble_eq_true rfl) dL_law_422 ⟨show cells + 0 ≤ 960946 by omega, show slots + 0 ≤ 6218629 by omega⟩ (fun r9 e9 => ?_)
              subst e9
              rw [(hzd z hz).mpr ⟨hz0, Nat.le_refl z⟩]
              refine lv_if_ge (tgt := 476) hx hb dL_law_425 (by decide) (fun c425 => absurd c425 (by decide)) (fun c425 => ?_)
              exact key428
        · have hfm1 : fm = -1 := hF0.resolve_right (fun w => by obtain ⟨j, j1, j2, -⟩ := w; rw [j2] at c401; exact c401 (nI_pos' (by omega)))
          rw [if_pos hfm1]
          refine lv_iconst (v := 1) hx hb dL_law_404 (by decide) ?_
          refine lv_goto (tgt := 409) hx hb dL_law_405 (by decide) ?_
          refine lv_icmp_ne (tgt := 476) hx hb dL_law_409 (by decide) (fun c409 => absurd rfl c409) (fun c409 => ?_)
          refine kr_cut (pcJ := 428) (stJ := []) ?_ (fun key428 => ?_)
          · refine kr_cut (pcJ := 447) (stJ := []) ?_ (fun key447 => ?_)
            · refine lv_aload_n hx hb dL_law_447 rfl (lv_at hl 3 rfl) ?_
              refine lv_iload hx hb dL_law_448 (lv_at hl 11 rfl) ?_
              refine kr_vI (n := 1) (As := [.int (nI k)]) (rest := []) ⟨hx, hb, hml, hown, hts⟩ (c_X0_spillsInto l D cy h a N L A k hN (by omega)) kg_RL_118 ⟨rfl, rfl⟩ (by decide +kernel) ⟨Nat.le_of_ble_eq_true rfl, Nat.le_of_ble_eq_true rfl⟩ (kr_pv0 hPc hK0) rfl hl.1 rfl (Nat.le_of_ble_eq_true rfl) dL_law_450 ⟨show cells + 0 ≤ 960946 by omega, show slots + 0 ≤ 6218629 by omega⟩ (fun r9 e9 => ?_)
              subst e9
              refine lv_iload hx hb dL_law_453 (lv_at hl 11 rfl) ?_
              refine lv_icmp_ge (tgt := 476) hx hb dL_law_455 (by decide) (fun c455 => absurd c455 (by rcases (hw.2.2.1 k hk).2.1 with w | ⟨j, j1, w⟩; rw [w]; exact fun w9 => Int32.lt_irrefl (Int32.lt_of_le_of_lt w9 (kr_m1lt9 (k := k) (by omega))); rw [w]; exact nI_ge (by omega) (by omega))) (fun c455 => ?_)
              refine lv_aload_n hx hb dL_law_458 rfl (lv_at hl 3 rfl) ?_
              refine lv_iload hx hb dL_law_459 (lv_at hl 11 rfl) ?_
              refine kr_vI (n := 1) (As := [.int (nI k)]) (rest := []) ⟨hx, hb, hml, hown, hts⟩ (c_X0_spillsAt l D cy h a N L A k hN (by omega)) kg_RL_112 ⟨rfl, rfl⟩ (by decide +kernel) ⟨Nat.le_of_ble_eq_true rfl, Nat.le_of_ble_eq_true rfl⟩ (kr_pv0 hPc hK0) rfl hl.1 rfl (Nat.le_of_ble_eq_true rfl) dL_law_461 ⟨show cells + 0 ≤ 960946 by omega, show slots + 0 ≤ 6218629 by omega⟩ (fun r9 e9 => ?_)
              subst e9
              refine lv_if_ne (tgt := 478) hx hb dL_law_464 (by decide) (fun c464 => ?_) (fun c464 => ?_)
              · refine lv_iinc (v := nI (k + 1)) (lv' := [(10, .int (nI (k + 1))), (12, .int (nI z)), (11, .int fm), (0, .ref b), (1, .ref h), (2, .ref g), (3, .int (nI t)), (4, .int x), (5, .long dg), (7, .int (nI N)), (8, .int (nI ld)), (9, .int (nI mo))]) hx hb dL_law_478 hl (k := 11) rfl (kr_inc _) (by decide) rfl (fun ls hl => ?_)
                refine lv_goto (tgt := 229) hx hb dL_law_481 (by decide) ?_
                exact ih (k + 1) ls (show k + 1 ≤ N by omega) (by show N - (k + 1) < N - k; omega) (lv_sub hl [3, 4, 5, 6, 7, 8, 9, 10, 11, 0] rfl)
              · refine lv_aload_n hx hb dL_law_467 rfl (lv_at hl 3 rfl) ?_
                refine lv_iload hx hb dL_law_468 (lv_at hl 11 rfl) ?_
                refine kr_vI (n := 1) (As := [.int (nI k)]) (rest := []) ⟨hx, hb, hml, hown, hts⟩ (c_X0_spillsInto l D cy h a N L A k hN (by omega)) kg_RL_118 ⟨rfl, rfl⟩ (by decide +kernel) ⟨Nat.le_of_ble_eq_true rfl, Nat.le_of_ble_eq_true rfl⟩ (kr_pv0 hPc hK0) rfl hl.1 rfl (Nat.le_of_ble_eq_true rfl) dL_law_470 ⟨show cells + 0 ≤ 960946 by omega, show slots + 0 ≤ 6218629 by omega⟩ (fun r9 e9 => ?_)
                subst e9
                refine lv_if_lt (tgt := 478) hx hb dL_law_473 (by decide) (fun c473 => ?_) (fun c473 => absurd (by rw [(hw.2.2.1 k hk).2.2.2 c464]; decide) c473)
                refine lv_iinc (v := nI (k + 1)) (lv' := [(10, .int (nI (k + 1))), (12, .int (nI z)), (11, .int fm), (0, .ref b), (1, .ref h), (2, .ref g), (3, .int (nI t)), (4, .int x), (5, .long dg), (7, .int (nI N)), (8, .int (nI ld)), (9, .int (nI mo))]) hx hb dL_law_478 hl (k := 11) rfl (kr_inc _) (by decide) rfl (fun ls hl => ?_)
                refine lv_goto (tgt := 229) hx hb dL_law_481 (by decide) ?_
                exact ih (k + 1) ls (show k + 1 ≤ N by omega) (by show N - (k + 1) < N - k; omega) (lv_sub hl [3, 4, 5, 6, 7, 8, 9, 10, 11, 0] rfl)
            · refine lv_iload hx hb dL_law_428 (lv_at hl 0 rfl) ?_
              refine lv_iconst (v := 1) hx hb dL_law_430 (by decide) ?_
              refine lv_icmp_le (tgt := 447) hx hb dL_law_431 (by decide) (fun c431 => ?_) (fun c431 => ?_)
              · exact key447
              · have hz1 : 1 < z := by have := mt (fun w => nI_le (a := z) (b := 1) w (by decide)) c431; omega
                refine lv_aload_n hx hb dL_law_434 rfl (lv_at hl 3 rfl) ?_
                refine lv_iload hx hb dL_law_435 (lv_at hl 11 rfl) ?_
                refine lv_iload hx hb dL_law_437 (lv_at hl 0 rfl) ?_
                refine lv_iconst (v := 1) hx hb dL_law_439 (by decide) ?_
                refine kr_isubN hx hb z 1 (by omega) dL_law_440 ?_
                refine kr_vI (n := 2) (As := [.int (nI k), .int (nI (z - 1))]) (rest := []) ⟨hx, hb, hml, hown, hts⟩ (c_X0_formOf l D cy h a N L A k (nI (z - 1)) hw (by omega) (kr_rgN (z := z - 1) (lo := 1) (hi := 999) (by omega) (by omega) (by decide))) kg_RL_106 ⟨rfl, rfl⟩ (by decide +kernel) ⟨Nat.le_of_ble_eq_true rfl, Nat.le_of_ble_eq_true rfl⟩ (kr_pv0 hPc hK0) rfl hl.1 rfl (Nat.le_of_ble_eq_true rfl) dL_law_441 ⟨show cells + 0 ≤ 960946 by omega, show slots + 0 ≤ 6218629 by omega⟩ (fun r9 e9 => ?_)
                subst e9
                have hnn : ¬ kr_fm A (nI (z - 1)) 16 (nI k) < 0 := by
                  rcases kr_pf1 (ld := nI (z - 1)) hw hx0 k hk with w | ⟨j, j1, w, -⟩
                  · have := ((hzd (z - 1) (by omega)).mp w).2; omega
                  · rw [w]; exact nI_pos (by omega)
                refine lv_if_lt (tgt := 476) hx hb dL_law_444 (by decide) (fun c444 => absurd c444 hnn) (fun c444 => ?_)
                exact key447
          · refine lv_iload hx hb dL_law_412 (lv_at hl 0 rfl) ?_
            refine lv_if_le (tgt := 428) hx hb dL_law_414 (by decide) (fun c414 => ?_) (fun c414 => ?_)
            · exact key428
            · have hz0 : 0 < z := kr_lt (a := 0) (b := z) (by decide) (by omega) c414
              refine lv_aload_n hx hb dL_law_417 rfl (lv_at hl 3 rfl) ?_
              refine lv_iload hx hb dL_law_418 (lv_at hl 11 rfl) ?_
              refine lv_iload hx hb dL_law_420 (lv_at hl 0 rfl) ?_
              refine kr_vI (n := 2) (As := [.int (nI k), .int (nI z)]) (rest := []) ⟨hx, hb, hml, hown, hts⟩ (c_X0_formOf l D cy h a N L A k (nI z) hw (by omega) (kr_rgN (z := z) (lo := 1) (hi := 999) (by omega) (by omega) (by decide))) kg_RL_106 ⟨rfl, rfl⟩ (by decide +kernel) ⟨Nat.le_of_ble_eq_true rfl, Nat.le_of_ble_eq_true rfl⟩ (kr_pv0 hPc hK0) rfl hl.1 rfl (Nat.le_of_ble_eq_true rfl) dL_law_422 ⟨show cells + 0 ≤ 960946 by omega, show slots + 0 ≤ 6218629 by omega⟩ (fun r9 e9 => ?_)
              subst e9
              rw [(hzd z hz).mpr ⟨hz0, Nat.le_refl z⟩]
              refine lv_if_ge (tgt := 476) hx hb dL_law_425 (by decide) (fun c425 => absurd c425 (by decide)) (fun c425 => ?_)
              exact key428
      · refine lv_if_le (tgt := 398) hx hb dL_law_384 (by decide) (fun c384 => ?_) (fun c384 => ?_)
        · have hz0 : z = 0 := by have := kr_ge (a := 0) (b := z) (by decide) (by omega) c384; omega
          refine lv_iconst (v := 0) hx hb dL_law_398 (by decide) ?_
          exact kJ _ (if_neg (fun w => by have := (hzl.mp w).1; omega)).symm
        · have hz0 : 0 < z := kr_lt (a := 0) (b := z) (by decide) (by omega) c384
          refine lv_iload hx hb dL_law_387 (lv_at hl 9 rfl) ?_
          refine lv_iload hx hb dL_law_389 (lv_at hl 0 rfl) ?_
          refine lv_icmp_lt (tgt := 398) hx hb dL_law_391 (by decide) (fun c391 => ?_) (fun c391 => ?_)
          · have hz9 : ld < z := by have := mt (fun w => nI_nlt (a := ld) (b := z) w (by omega)) (fun w => w c391); omega
            refine lv_iconst (v := 0) hx hb dL_law_398 (by decide) ?_
            exact kJ _ (if_neg (fun w => by have := (hzl.mp w).2; omega)).symm
          · have hz9 : z ≤ ld := by have := mt (fun w => nI_lt (a := ld) (b := z) w (by omega)) c391; omega
            refine lv_iconst (v := 1) hx hb dL_law_394 (by decide) ?_
            refine lv_goto (tgt := 399) hx hb dL_law_395 (by decide) ?_
            exact kJ _ (if_pos (hzl.mpr ⟨hz0, hz9⟩)).symm
    · refine kr_cut (pcJ := 332) (stJ := []) ?_ (fun key332 => ?_)
      · refine lv_aload_n hx hb dL_law_332 rfl (lv_at hl 3 rfl) ?_
        refine lv_iload hx hb dL_law_333 (lv_at hl 11 rfl) ?_
        refine lv_iload hx hb dL_law_335 (lv_at hl 10 rfl) ?_
        refine kr_vI (n := 2) (As := [.int (nI k), .int (nI mo)]) (rest := []) ⟨hx, hb, hml, hown, hts⟩ (c_X0_spills l D cy h a N L A k (nI mo) hw (by omega) hmo) kg_RL_115 ⟨rfl, rfl⟩ (by decide +kernel) ⟨Nat.le_of_ble_eq_true rfl, Nat.le_of_ble_eq_true rfl⟩ (kr_pv0 hPc hK0) rfl hl.1 rfl (Nat.le_of_ble_eq_true rfl) dL_law_337 ⟨show cells + 0 ≤ 960946 by omega, show slots + 0 ≤ 6218629 by omega⟩ (fun r9 e9 => ?_)
        subst e9
        refine lv_aload_n hx hb dL_law_340 rfl (lv_at hl 3 rfl) ?_
        refine lv_iload hx hb dL_law_341 (lv_at hl 11 rfl) ?_
        refine lv_iload hx hb dL_law_343 (lv_at hl 9 rfl) ?_
        refine kr_vI (n := 2) (As := [.int (nI k), .int (nI ld)]) (rest := [.int (nI (kr_sp A (nI mo) 16 (nI k)))]) ⟨hx, hb, hml, hown, hts⟩ (c_X0_spills l D cy h a N L A k (nI ld) hw (by omega) hld) kg_RL_115 ⟨rfl, rfl⟩ (by decide +kernel) ⟨Nat.le_of_ble_eq_true rfl, Nat.le_of_ble_eq_true rfl⟩ (kr_pv0 hPc hK0) rfl hl.1 rfl (Nat.le_of_ble_eq_true rfl) dL_law_345 ⟨show cells + 0 ≤ 960946 by omega, show slots + 0 ≤ 6218629 by omega⟩ (fun r9 e9 => ?_)
        subst e9
        refine lv_icmp_lt (tgt := 367) hx hb dL_law_348 (by decide) (fun c348 => absurd c348 (nI_nlt hsp3 (by omega))) (fun c348 => ?_)
        refine lv_iload hx hb dL_law_351 (lv_at hl 1 rfl) ?_
        refine lv_if_ge (tgt := 369) hx hb dL_law_353 (by decide) (fun c353 => ?_) (fun c353 => ?_)
        · exact key369
        · have hfm1 : fm = -1 := hF0.resolve_right (fun w => by obtain ⟨j, j1, j2, -⟩ := w; rw [j2] at c353; exact c353 (nI_pos' (by omega)))
          refine lv_aload_n hx hb dL_law_356 rfl (lv_at hl 3 rfl) ?_
          refine lv_iload hx hb dL_law_357 (lv_at hl 11 rfl) ?_
          refine lv_iload hx hb dL_law_359 (lv_at hl 10 rfl) ?_
          refine kr_vI (n := 2) (As := [.int (nI k), .int (nI mo)]) (rest := []) ⟨hx, hb, hml, hown, hts⟩ (c_X0_formOf l D cy h a N L A k (nI mo) hw (by omega) hmo) kg_RL_106 ⟨rfl, rfl⟩ (by decide +kernel) ⟨Nat.le_of_ble_eq_true rfl, Nat.le_of_ble_eq_true rfl⟩ (kr_pv0 hPc hK0) rfl hl.1 rfl (Nat.le_of_ble_eq_true rfl) dL_law_361 ⟨show cells + 0 ≤ 960946 by omega, show slots + 0 ≤ 6218629 by omega⟩ (fun r9 e9 => ?_)
          subst e9
          rw [hF4 hfm1]
          refine lv_if_lt (tgt := 369) hx hb dL_law_364 (by decide) (fun c364 => ?_) (fun c364 => absurd (by decide) c364)
          exact key369
      · rcases hF0 with hfm1 | ⟨j, hj, hfj, hjk, hgo⟩
        · rw [hfm1] at hl hF2
          refine lv_iload hx hb dL_law_254 (lv_at hl 1 rfl) ?_
          refine lv_iload hx hb dL_law_256 (lv_at hl 11 rfl) ?_
          refine lv_icmp_gt (tgt := 367) hx hb dL_law_258 (by decide) (fun c258 => absurd c258 (kr_nm1 (by omega))) (fun c258 => ?_)
          refine lv_iload hx hb dL_law_261 (lv_at hl 1 rfl) ?_
          refine lv_if_lt (tgt := 301) hx hb dL_law_263 (by decide) (fun c263 => ?_) (fun c263 => absurd (by decide) c263)
          refine lv_iload hx hb dL_law_301 (lv_at hl 1 rfl) ?_
          refine lv_iload hx hb dL_law_303 (lv_at hl 11 rfl) ?_
          refine lv_icmp_ne (tgt := 312) hx hb dL_law_305 (by decide) (fun c305 => ?_) (fun c305 => absurd c305.symm (kr_kn_ne (by omega)))
          refine lv_iconst (v := 0) hx hb dL_law_312 (by decide) ?_
          refine lv_aload_n hx hb dL_law_313 rfl (lv_at hl 3 rfl) ?_
          refine lv_iload hx hb dL_law_314 (lv_at hl 11 rfl) ?_
          refine lv_iload hx hb dL_law_316 (lv_at hl 9 rfl) ?_
          refine kr_vI (n := 2) (As := [.int (nI k), .int (nI ld)]) (rest := [.int 0]) ⟨hx, hb, hml, hown, hts⟩ (c_X0_spills l D cy h a N L A k (nI ld) hw (by omega) hld) kg_RL_115 ⟨rfl, rfl⟩ (by decide +kernel) ⟨Nat.le_of_ble_eq_true rfl, Nat.le_of_ble_eq_true rfl⟩ (kr_pv0 hPc hK0) rfl hl.1 rfl (Nat.le_of_ble_eq_true rfl) dL_law_318 ⟨show cells + 0 ≤ 960946 by omega, show slots + 0 ≤ 6218629 by omega⟩ (fun r9 e9 => ?_)
          subst e9
          refine lv_if_ne (tgt := 328) hx hb dL_law_321 (by decide) (fun c321 => ?_) (fun c321 => absurd (hF2.mpr ((nI_eq (b := 0) (by omega) (by decide)).mp c321)).symm (kr_kn_ne (by omega)))
          refine lv_iconst (v := 0) hx hb dL_law_328 (by decide) ?_
          refine lv_icmp_ne (tgt := 367) hx hb dL_law_329 (by decide) (fun c329 => absurd rfl c329) (fun c329 => ?_)
          exact key332
        · rw [hfj] at hl hF2
          refine kr_cut (pcJ := 301) (stJ := []) ?_ (fun key301 => ?_)
          · refine lv_iload hx hb dL_law_301 (lv_at hl 1 rfl) ?_
            refine lv_iload hx hb dL_law_303 (lv_at hl 11 rfl) ?_
            refine lv_icmp_ne (tgt := 312) hx hb dL_law_305 (by decide) (fun c305 => ?_) (fun c305 => ?_)
            · refine lv_iconst (v := 0) hx hb dL_law_312 (by decide) ?_
              refine lv_aload_n hx hb dL_law_313 rfl (lv_at hl 3 rfl) ?_
              refine lv_iload hx hb dL_law_314 (lv_at hl 11 rfl) ?_
              refine lv_iload hx hb dL_law_316 (lv_at hl 9 rfl) ?_
              refine kr_vI (n := 2) (As := [.int (nI k), .int (nI ld)]) (rest := [.int 0]) ⟨hx, hb, hml, hown, hts⟩ (c_X0_spills l D cy h a N L A k (nI ld) hw (by omega) hld) kg_RL_115 ⟨rfl, rfl⟩ (by decide +kernel) ⟨Nat.le_of_ble_eq_true rfl, Nat.le_of_ble_eq_true rfl⟩ (kr_pv0 hPc hK0) rfl hl.1 rfl (Nat.le_of_ble_eq_true rfl) dL_law_318 ⟨show cells + 0 ≤ 960946 by omega, show slots + 0 ≤ 6218629 by omega⟩ (fun r9 e9 => ?_)
              subst e9
              refine lv_if_ne (tgt := 328) hx hb dL_law_321 (by decide) (fun c321 => ?_) (fun c321 => absurd (hF2.mpr ((nI_eq (b := 0) (by omega) (by decide)).mp c321)) c305)
              refine lv_iconst (v := 0) hx hb dL_law_328 (by decide) ?_
              refine lv_icmp_ne (tgt := 367) hx hb dL_law_329 (by decide) (fun c329 => absurd rfl c329) (fun c329 => ?_)
              exact key332
            · refine lv_iconst (v := 1) hx hb dL_law_308 (by decide) ?_
              refine lv_goto (tgt := 313) hx hb dL_law_309 (by decide) ?_
              refine lv_aload_n hx hb dL_law_313 rfl (lv_at hl 3 rfl) ?_
              refine lv_iload hx hb dL_law_314 (lv_at hl 11 rfl) ?_
              refine lv_iload hx hb dL_law_316 (lv_at hl 9 rfl) ?_
              refine kr_vI (n := 2) (As := [.int (nI k), .int (nI ld)]) (rest := [.int 1]) ⟨hx, hb, hml, hown, hts⟩ (c_X0_spills l D cy h a N L A k (nI ld) hw (by omega) hld) kg_RL_115 ⟨rfl, rfl⟩ (by decide +kernel) ⟨Nat.le_of_ble_eq_true rfl, Nat.le_of_ble_eq_true rfl⟩ (kr_pv0 hPc hK0) rfl hl.1 rfl (Nat.le_of_ble_eq_true rfl) dL_law_318 ⟨show cells + 0 ≤ 960946 by omega, show slots + 0 ≤ 6218629 by omega⟩ (fun r9 e9 => ?_)
              subst e9
              refine lv_if_ne (tgt := 328) hx hb dL_law_321 (by decide) (fun c321 => absurd (by rw [hF2.mp c305]; rfl) c321) (fun c321 => ?_)
              refine lv_iconst (v := 1) hx hb dL_law_324 (by decide) ?_
              refine lv_goto (tgt := 329) hx hb dL_law_325 (by decide) ?_
              refine lv_icmp_ne (tgt := 367) hx hb dL_law_329 (by decide) (fun c329 => absurd rfl c329) (fun c329 => ?_)
              exact key332
          · refine lv_iload hx hb dL_law_254 (lv_at hl 1 rfl) ?_
            refine lv_iload hx hb dL_law_256 (lv_at hl 11 rfl) ?_
            refine lv_icmp_gt (tgt := 367) hx hb dL_law_258 (by decide) (fun c258 => absurd c258 (nI_nlt hj (by omega))) (fun c258 => ?_)
            refine lv_iload hx hb dL_law_261 (lv_at hl 1 rfl) ?_
            refine lv_if_lt (tgt := 301) hx hb dL_law_263 (by decide) (fun c263 => absurd c263 (nI_pos (by omega))) (fun c263 => ?_)
            refine lv_aload_n hx hb dL_law_266 rfl (lv_at hl 3 rfl) ?_
            refine lv_iload hx hb dL_law_267 (lv_at hl 1 rfl) ?_
            refine kr_vI (n := 1) (As := [.int (nI j)]) (rest := []) ⟨hx, hb, hml, hown, hts⟩ (c_X0_kindOf l D cy h a N L A j hN (by omega)) kg_RL_92 ⟨rfl, rfl⟩ (by decide +kernel) ⟨Nat.le_of_ble_eq_true rfl, Nat.le_of_ble_eq_true rfl⟩ (kr_pv0 hPc hK0) rfl hl.1 rfl (Nat.le_of_ble_eq_true rfl) dL_law_269 ⟨show cells + 0 ≤ 960946 by omega, show slots + 0 ≤ 6218629 by omega⟩ (fun r9 e9 => ?_)
            subst e9
            refine lv_aload_n hx hb dL_law_272 rfl (lv_at hl 3 rfl) ?_
            refine lv_iload hx hb dL_law_273 (lv_at hl 11 rfl) ?_
            refine kr_vI (n := 1) (As := [.int (nI k)]) (rest := [.int (A 0 j)]) ⟨hx, hb, hml, hown, hts⟩ (c_X0_kindOf l D cy h a N L A k hN (by omega)) kg_RL_92 ⟨rfl, rfl⟩ (by decide +kernel) ⟨Nat.le_of_ble_eq_true rfl, Nat.le_of_ble_eq_true rfl⟩ (kr_pv0 hPc hK0) rfl hl.1 rfl (Nat.le_of_ble_eq_true rfl) dL_law_275 ⟨show cells + 0 ≤ 960946 by omega, show slots + 0 ≤ 6218629 by omega⟩ (fun r9 e9 => ?_)
            subst e9
            refine lv_icmp_ne (tgt := 367) hx hb dL_law_278 (by decide) (fun c278 => absurd hjk c278) (fun c278 => ?_)
            refine lv_aload_n hx hb dL_law_281 rfl (lv_at hl 3 rfl) ?_
            refine lv_iload hx hb dL_law_282 (lv_at hl 1 rfl) ?_
            refine kr_vI (n := 1) (As := [.int (nI j)]) (rest := []) ⟨hx, hb, hml, hown, hts⟩ (c_X0_spillsAt l D cy h a N L A j hN (by omega)) kg_RL_112 ⟨rfl, rfl⟩ (by decide +kernel) ⟨Nat.le_of_ble_eq_true rfl, Nat.le_of_ble_eq_true rfl⟩ (kr_pv0 hPc hK0) rfl hl.1 rfl (Nat.le_of_ble_eq_true rfl) dL_law_284 ⟨show cells + 0 ≤ 960946 by omega, show slots + 0 ≤ 6218629 by omega⟩ (fun r9 e9 => ?_)
            subst e9
            refine lv_if_le (tgt := 301) hx hb dL_law_287 (by decide) (fun c287 => ?_) (fun c287 => ?_)
            · exact key301
            · refine lv_aload_n hx hb dL_law_290 rfl (lv_at hl 3 rfl) ?_
              refine lv_iload hx hb dL_law_291 (lv_at hl 1 rfl) ?_
              refine kr_vI (n := 1) (As := [.int (nI j)]) (rest := []) ⟨hx, hb, hml, hown, hts⟩ (c_X0_spillsAt l D cy h a N L A j hN (by omega)) kg_RL_112 ⟨rfl, rfl⟩ (by decide +kernel) ⟨Nat.le_of_ble_eq_true rfl, Nat.le_of_ble_eq_true rfl⟩ (kr_pv0 hPc hK0) rfl hl.1 rfl (Nat.le_of_ble_eq_true rfl) dL_law_293 ⟨show cells + 0 ≤ 960946 by omega, show slots + 0 ≤ 6218629 by omega⟩ (fun r9 e9 => ?_)
              subst e9
              refine lv_iload hx hb dL_law_296 (lv_at hl 9 rfl) ?_
              refine lv_icmp_le (tgt := 367) hx hb dL_law_298 (by decide) (fun c298 => absurd ⟨kr_kn_ne (by omega), by rw [kr_ix_nI (by omega)]; exact fun w => c287 (by rw [w]; decide), by rw [kr_ix_nI (by omega)]; exact c298⟩ hgo) (fun c298 => ?_)
              exact key301
