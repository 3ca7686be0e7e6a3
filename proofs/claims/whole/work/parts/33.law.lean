/-! the law's loop, and the law from its entry -/
theorem kr_and31 (x : Int32) : ∃ q, q < 32 ∧ x &&& 31 = nI q := by
  refine ⟨x.toBitVec.toNat % 32, Nat.mod_lt _ (by omega), ?_⟩
  apply Int32.toBitVec_inj.1
  show x.toBitVec &&& 31#32 = BitVec.ofNat 32 (x.toBitVec.toNat % 32)
  apply BitVec.eq_of_toNat_eq
  rw [BitVec.toNat_and, BitVec.toNat_ofNat, BitVec.toNat_ofNat, show (31 % 2 ^ 32 : Nat) = 2 ^ 5 - 1 from rfl, Nat.and_two_pow_sub_one_eq_mod]
  have := x.toBitVec.isLt
  omega
theorem kr_lp4 : ∀ n, n < 4 → ∀ i, i ≤ 3 → nI n - 4 < nI i := by decide
theorem kr_lpgt {n i : Nat} (hn : n ≤ 2048) (hi : i ≤ n) : nI n - 4 < nI i ↔ ¬ i + 4 ≤ n := by
  by_cases h4 : 4 ≤ n
  · have e : nI n - 4 = nI (n - 4) := pk_sub h4
    rw [e]
    constructor
    · intro h h2
      exact nI_nlt (a := n - 4) (b := i) (by omega) (by omega) h
    · intro h
      exact nI_lt (by omega) (by omega)
  · exact ⟨fun _ => by omega, fun _ => kr_lp4 n (by omega) i (by omega)⟩
set_option maxHeartbeats 8000000 in
set_option maxRecDepth 100000 in
theorem law_loop {p : Program} {l : Launch} {e : Env} {s : State} {m : MethodId} {below : List Frame} {meth : Method} {c : Code} {b Ls : Nat} {xs : Nat → Int32} {D : va_G} {cy cl : ClassId} {h h' o : Nat} {a a' : Nat → Nat} {H : Heap} {locs : List Loc} {ls : Array Slot} (C0 : lw_At p s m meth c b Ls xs) (hL9 : Ls ≤ 2048) (hl0 : l.stackTraces = false) (hT : kr_T s) (hK : va_K D vwCl [(cy, .int), (cl, .long)] s) (hP : va_P D vwCl (kr_WW cy cl h a h' a' o 0 0 (fun _ _ => 0) 0 0 0 (fun _ _ => 0) (fun _ => 0)) H) (hD : va_D (kr_new s) (kr_WW cy cl h a h' a' o 0 0 (fun _ _ => 0) 0 0 0 (fun _ _ => 0) (fun _ => 0))) (hS : va_S (kr_new s) s.heap H locs) (hl : lv_has ls 9 [(0, .ref b), (1, .ref h), (2, .ref h'), (3, .ref o), (4, .int (nI 0))]) : W p l e room_1 s m #[Value.ref b] below meth c H locs 19 314 (lw_Z below #[Value.ref b] s) (F0 m 23 ls []) := by
  obtain ⟨hx, hb, hr, hml, hown, hts0, hX, hbl, hlocks, hgv⟩ := id C0
  have hts : ∀ w ∈ kr_all, w.before #[Value.ref b] s = true := fun w hw => hts0 w (List.mem_filter.mp hw).1
  have hown : s.vm.findClass RL = some m.cls := hown
  have hb : c.code = cL_law := hb
  have hbA : ¬ (kr_new s) b := Nat.not_le.mpr hbl
  refine kr_lpC (nL := 9) (fun z : Nat × Nat × Nat × (Nat → Nat → Int32) × Int32 × (Nat → Int64) => [(0, .ref b), (1, .ref h), (2, .ref h'), (3, .ref o), (4, .int (nI (4 * z.1)))]) (fun z H locs => (4 * z.1 ≤ Ls ∧ kr_wf z.2.1 z.2.2.1 z.2.2.2.1 ∧ kr_we z.2.1 z.2.2.2.1) ∧ va_P D vwCl (kr_WW cy cl h a h' a' o z.2.1 z.2.2.1 z.2.2.2.1 z.2.2.2.2.1 z.2.1 z.2.2.1 z.2.2.2.1 z.2.2.2.2.2) H ∧ va_D (kr_new s) (kr_WW cy cl h a h' a' o z.2.1 z.2.2.1 z.2.2.2.1 z.2.2.2.2.1 z.2.1 z.2.2.1 z.2.2.2.1 z.2.2.2.2.2) ∧ va_S (kr_new s) s.heap H locs) (fun z => Ls - 4 * z.1) (fun z => 19 + 16 * z.1) (fun z => 314 + 112 * z.1) ?_ (0, 0, 0, (fun _ _ => 0), 0, (fun _ => 0)) ⟨⟨Nat.zero_le _, ⟨Nat.zero_le _, Nat.zero_le _, fun k hk => absurd hk (Nat.not_lt_zero _), fun k hk => absurd hk (Nat.not_lt_zero _)⟩, fun k hk => absurd hk (Nat.not_lt_zero _)⟩, hP, hD, hS⟩ hl
  clear hl hP hD hS
  intro z H locs ls hI hl ih
  obtain ⟨k, N, L, A, th, O⟩ := z
  have hl : lv_has ls 9 [(0, .ref b), (1, .ref h), (2, .ref h'), (3, .ref o), (4, .int (nI (4 * k)))] := hl
  obtain ⟨⟨hk, hw, hwe⟩, hP, hD, hS⟩ : (4 * k ≤ Ls ∧ kr_wf N L A ∧ kr_we N A) ∧ va_P D vwCl (kr_WW cy cl h a h' a' o N L A th N L A O) H ∧ va_D (kr_new s) (kr_WW cy cl h a h' a' o N L A th N L A O) ∧ va_S (kr_new s) s.heap H locs := hI
  show W p l e room_1 s m #[Value.ref b] below meth c H locs (19 + 16 * k) (314 + 112 * k) (lw_Z below #[Value.ref b] s) (F0 m 23 ls [])
  refine lv_iload hx hb dL_law_23 (lv_at hl 4 rfl) ?_
  refine lv_aload_n hx hb dL_law_25 rfl (lv_at hl 0 rfl) ?_
  refine va_slen hx hb hX hbl hbA hS dL_law_26 ?_
  refine lv_iconst (v := 4) hx hb dL_law_27 (by decide) ?_
  refine lv_isub hx hb dL_law_28 ?_
  refine lv_icmp_gt (tgt := 1895) hx hb dL_law_29 (by decide) (fun c29 => ?_) (fun c29 => ?_)
  · refine lv_iconst (v := 1) hx hb dL_law_1895 (by decide) ?_
    refine va_forget (fun q hq => hS.2.2 q hq) ?_
    refine W.widen (k := 601024) (n := 7293034) (by omega) (by omega) ?_
    exact lw_ret (d0 := s.drawn) (Drawn.sameBut.refl s.drawn lw_cs) hx hb hr hlocks dL_law_1896
  · have hi : 4 * k + 4 ≤ Ls := Classical.byContradiction (fun w => c29 ((kr_lpgt hL9 hk).mpr w))
    have kT : ∀ (N L : Nat) (A : Nat → Nat → Int32) (th : Int32) (O : Nat → Int64) (H : Heap) (locs : List Loc) (ls : Array Slot), kr_wf N L A → kr_we N A → va_P D vwCl (kr_WW cy cl h a h' a' o N L A th N L A O) H → va_D (kr_new s) (kr_WW cy cl h a h' a' o N L A th N L A O) → va_S (kr_new s) s.heap H locs → lv_has ls 9 [(0, .ref b), (1, .ref h), (2, .ref h'), (3, .ref o), (4, .int (nI (4 * k)))] → W p l e room_1 s m #[Value.ref b] below meth c H locs (19 + 16 * k + 16) (314 + 112 * k + 112) (lw_Z below #[Value.ref b] s) (F0 m 1889 ls []) := by
      intro N L A th O H locs ls hw hwe hP hD hS hl
      refine lv_iinc (v := nI (4 * k + 4)) (lv' := [(4, .int (nI (4 * k + 4))), (0, .ref b), (1, .ref h), (2, .ref h'), (3, .ref o)]) hx hb dL_law_1889 hl (k := 4) rfl (by rw [show Int32.ofInt 4 = nI 4 from rfl, nI_add]) (by decide) rfl (fun ls hl => ?_)
      refine lv_goto (tgt := 23) hx hb dL_law_1892 (by decide) ?_
      refine W.widen (k := 19 + 16 * (k + 1)) (n := 314 + 112 * (k + 1)) (by omega) (by omega) ?_
      exact ih (k + 1, N, L, A, th, O) H locs ls ⟨⟨(show 4 * (k + 1) ≤ Ls by omega), hw, hwe⟩, hP, hD, hS⟩ (by show Ls - 4 * (k + 1) < Ls - 4 * k; omega) (lv_sub hl [1, 2, 3, 4, 0] rfl)
    refine lv_aload_n hx hb dL_law_32 rfl (lv_at hl 0 rfl) ?_
    refine lv_iload hx hb dL_law_33 (lv_at hl 4 rfl) ?_
    refine va_sld hx hb hX hbl hbA hS (vp_in_nI (by omega) (by omega)) dL_law_35 ?_
    refine lv_bipush (v := 31) hx hb dL_law_36 (by decide) ?_
    refine lv_iand hx hb dL_law_38 ?_
    obtain ⟨q, hq, eq⟩ := kr_and31 (xs (nI (4 * k)).toNatClampNeg)
    rw [eq]
    have hf : 19 + 16 * k + 16 ≤ 601024 ∧ 314 + 112 * k + 112 ≤ 7293034 := ⟨by omega, by omega⟩
    clear eq ih
    rcases (show q = 0 ∨ q = 1 ∨ q = 2 ∨ q = 3 ∨ q = 4 ∨ q = 5 ∨ q = 6 ∨ q = 7 ∨ q = 8 ∨ q = 9 ∨ q = 10 ∨ q = 11 ∨ q = 12 ∨ q = 13 ∨ q = 14 ∨ q = 15 ∨ q = 16 ∨ q = 17 ∨ q = 18 ∨ q = 19 ∨ q = 20 ∨ q = 21 ∨ q = 22 ∨ q = 23 ∨ q = 24 ∨ q = 25 ∨ q = 26 ∨ q = 27 ∨ q = 28 ∨ q = 29 ∨ q = 30 ∨ q = 31 by omega) with rfl | rfl | rfl | rfl | rfl | rfl | rfl | rfl | rfl | rfl | rfl | rfl | rfl | rfl | rfl | rfl | rfl | rfl | rfl | rfl | rfl | rfl | rfl | rfl | rfl | rfl | rfl | rfl | rfl | rfl | rfl | rfl
    · exact lv_tableIn (off := 133) (tgt := 172) hx hb dL_law_39 (by decide) (by decide) rfl (by decide) (law_c_addKnot C0 hL9 hl0 hT hw hwe hK hP hD hS hi hl hf kT)
    · exact lv_tableIn (off := 213) (tgt := 252) hx hb dL_law_39 (by decide) (by decide) rfl (by decide) (law_c_setSpill C0 hL9 hl0 hT hw hwe hK hP hD hS hi hl hf kT)
    · exact lv_tableIn (off := 293) (tgt := 332) hx hb dL_law_39 (by decide) (by decide) rfl (by decide) (law_c_tie C0 hL9 hl0 hT hw hwe hK hP hD hS hi hl hf kT)
    · exact lv_tableIn (off := 361) (tgt := 400) hx hb dL_law_39 (by decide) (by decide) rfl (by decide) (law_c_join C0 hL9 hl0 hT hw hwe hK hP hD hS hi hl hf kT)
    · exact lv_tableIn (off := 441) (tgt := 480) hx hb dL_law_39 (by decide) (by decide) rfl (by decide) (law_c_retie C0 hL9 hl0 hT hw hwe hK hP hD hS hi hl hf kT)
    · exact lv_tableIn (off := 521) (tgt := 560) hx hb dL_law_39 (by decide) (by decide) rfl (by decide) (law_c_pull C0 hL9 hl0 hT hw hwe hK hP hD hS hi hl hf kT)
    · exact lv_tableIn (off := 589) (tgt := 628) hx hb dL_law_39 (by decide) (by decide) rfl (by decide) (law_c_knots C0 hL9 hl0 hT hw hwe hK hP hD hS hi hl hf kT)
    · exact lv_tableIn (off := 602) (tgt := 641) hx hb dL_law_39 (by decide) (by decide) rfl (by decide) (law_c_knotsOf C0 hL9 hl0 hT hw hwe hK hP hD hS hi hl hf kT)
    · exact lv_tableIn (off := 658) (tgt := 697) hx hb dL_law_39 (by decide) (by decide) rfl (by decide) (law_c_kindOf C0 hL9 hl0 hT hw hwe hK hP hD hS hi hl hf kT)
    · exact lv_tableIn (off := 714) (tgt := 753) hx hb dL_law_39 (by decide) (by decide) rfl (by decide) (law_c_efficiencyOf C0 hL9 hl0 hT hw hwe hK hP hD hS hi hl hf kT)
    · exact lv_tableIn (off := 770) (tgt := 809) hx hb dL_law_39 (by decide) (by decide) rfl (by decide) (law_c_crossingsOf C0 hL9 hl0 hT hw hwe hK hP hD hS hi hl hf kT)
    · exact lv_tableIn (off := 826) (tgt := 865) hx hb dL_law_39 (by decide) (by decide) rfl (by decide) (law_c_spillsAt C0 hL9 hl0 hT hw hwe hK hP hD hS hi hl hf kT)
    · exact lv_tableIn (off := 882) (tgt := 921) hx hb dL_law_39 (by decide) (by decide) rfl (by decide) (law_c_spillsInto C0 hL9 hl0 hT hw hwe hK hP hD hS hi hl hf kT)
    · exact lv_tableIn (off := 938) (tgt := 977) hx hb dL_law_39 (by decide) (by decide) rfl (by decide) (law_c_rankOf C0 hL9 hl0 hT hw hwe hK hP hD hS hi hl hf kT)
    · exact lv_tableIn (off := 994) (tgt := 1033) hx hb dL_law_39 (by decide) (by decide) rfl (by decide) (law_c_knotAt C0 hL9 hl0 hT hw hwe hK hP hD hS hi hl hf kT)
    · exact lv_tableIn (off := 1062) (tgt := 1101) hx hb dL_law_39 (by decide) (by decide) rfl (by decide) (law_c_formOf C0 hL9 hl0 hT hw hwe hK hP hD hS hi hl hf kT)
    · exact lv_tableIn (off := 1130) (tgt := 1169) hx hb dL_law_39 (by decide) (by decide) rfl (by decide) (law_c_spills C0 hL9 hl0 hT hw hwe hK hP hD hS hi hl hf kT)
    · exact lv_tableIn (off := 1198) (tgt := 1237) hx hb dL_law_39 (by decide) (by decide) rfl (by decide) (law_c_fallsApartAt C0 hL9 hl0 hT hw hwe hK hP hD hS hi hl hf kT)
    · exact lv_tableIn (off := 1254) (tgt := 1293) hx hb dL_law_39 (by decide) (by decide) rfl (by decide) (law_c_lines C0 hL9 hl0 hT hw hwe hK hP hD hS hi hl hf kT)
    · exact lv_tableIn (off := 1267) (tgt := 1306) hx hb dL_law_39 (by decide) (by decide) rfl (by decide) (law_c_ropesOf C0 hL9 hl0 hT hw hwe hK hP hD hS hi hl hf kT)
    · exact lv_tableIn (off := 1323) (tgt := 1362) hx hb dL_law_39 (by decide) (by decide) rfl (by decide) (law_c_knotOf C0 hL9 hl0 hT hw hwe hK hP hD hS hi hl hf kT)
    · exact lv_tableIn (off := 1391) (tgt := 1430) hx hb dL_law_39 (by decide) (by decide) rfl (by decide) (law_c_strengthAt C0 hL9 hl0 hT hw hwe hK hP hD hS hi hl hf kT)
    · exact lv_tableIn (off := 1459) (tgt := 1498) hx hb dL_law_39 (by decide) (by decide) rfl (by decide) (law_c_weakestPlace C0 hL9 hl0 hT hw hwe hK hP hD hS hi hl hf kT)
    · exact lv_tableIn (off := 1515) (tgt := 1554) hx hb dL_law_39 (by decide) (by decide) rfl (by decide) (law_c_holds C0 hL9 hl0 hT hw hwe hK hP hD hS hi hl hf kT)
    · exact lv_tableIn (off := 1590) (tgt := 1629) hx hb dL_law_39 (by decide) (by decide) rfl (by decide) (law_c_holdsUpTo C0 hL9 hl0 hT hw hwe hK hP hD hS hi hl hf kT)
    · exact lv_tableIn (off := 1646) (tgt := 1685) hx hb dL_law_39 (by decide) (by decide) rfl (by decide) (law_c_wouldGiveWay C0 hL9 hl0 hT hw hwe hK hP hD hS hi hl hf kT)
    · exact lv_tableIn (off := 1714) (tgt := 1753) hx hb dL_law_39 (by decide) (by decide) rfl (by decide) (law_c_bestKnot C0 hL9 hl0 hT hw hwe hK hP hD hS hi hl hf kT)
    · exact lv_tableIn (off := 1782) (tgt := 1821) hx hb dL_law_39 (by decide) (by decide) rfl (by decide) (law_c_strongestLine C0 hL9 hl0 hT hw hwe hK hP hD hS hi hl hf kT)
    · exact lv_tableIn (off := 1795) (tgt := 1834) hx hb dL_law_39 (by decide) (by decide) rfl (by decide) (law_c_mean C0 hL9 hl0 hT hw hwe hK hP hD hS hi hl hf kT)
    · exact lv_tableIn (off := 1836) (tgt := 1875) hx hb dL_law_39 (by decide) (by decide) rfl (by decide) (law_c_digest C0 hL9 hl0 hT hw hwe hK hP hD hS hi hl hf kT)
    · exact lv_tableOut (tgt := 1889) hx hb dL_law_39 (by decide) (by decide) (W.widen (k := 19 + 16 * k + 16) (n := 314 + 112 * k + 112) (by omega) (by omega) (kT N L A th O H locs ls hw hwe hP hD hS hl))
    · exact lv_tableOut (tgt := 1889) hx hb dL_law_39 (by decide) (by decide) (W.widen (k := 19 + 16 * k + 16) (n := 314 + 112 * k + 112) (by omega) (by omega) (kT N L A th O H locs ls hw hwe hP hD hS hl))
theorem kr_txs : ∀ q ∈ kr_tx, Cond.stringRef "KnotRack" q.1 q.2 ∈ lw_tbl ∧ Cond.exactly (Term.string "KnotRack" q.1) "java/lang/String" ∈ flatC (Jvm.Cond.and given_1 narrow_1) := by decide +kernel
theorem kr_T0 {s : State} {args : Array Value} (hts0 : ∀ w ∈ lw_tbl, w.before args s = true) (hgv : (Jvm.Cond.and given_1 narrow_1).before args s = true) : kr_T s := by
  have hs := flat_of_before _ hgv
  refine ⟨vx_Zqof (hts0 _ (List.mem_of_getElem? (i := 144) (by decide +kernel))) (hts0 _ (List.mem_of_getElem? (i := 50) (by decide +kernel))) (hs _ (by decide +kernel)) (fun _ _ h => h), vx_Zqof (hts0 _ (List.mem_of_getElem? (i := 146) (by decide +kernel))) (hts0 _ (List.mem_of_getElem? (i := 50) (by decide +kernel))) (hs _ (by decide +kernel)) (fun _ _ h => h), va_Nw.of rfl (hts0 _ (List.mem_of_getElem? (i := 121) (by decide +kernel))), va_Nw.of rfl (hts0 _ (List.mem_of_getElem? (i := 123) (by decide +kernel))), va_Nw.of rfl (hts0 _ (List.mem_of_getElem? (i := 125) (by decide +kernel))), va_Nw.of rfl (hts0 _ (List.mem_of_getElem? (i := 119) (by decide +kernel))), va_Nw.of rfl (hts0 _ (List.mem_of_getElem? (i := 319) (by decide +kernel))), va_Nw.of rfl (hts0 _ (List.mem_of_getElem? (i := 336) (by decide +kernel))), va_Nc.of (hs _ (by decide +kernel)), va_Nc.of (hs _ (by decide +kernel)), va_Nc.of (hs _ (by decide +kernel)), fun q hq => ?_⟩
  obtain ⟨h1, h2⟩ := kr_txs q hq
  obtain ⟨a, c, cA, kA, q1, -⟩ := Cond.exactly_spec (args := args) (first := s) (o := none) (s := s) (idx := []) (t := Term.string "KnotRack" q.1) (cls := "java/lang/String") (hs _ h2)
  exact ⟨a, vk_R.of (hts0 _ h1) q1⟩
set_option maxHeartbeats 8000000 in
set_option maxRecDepth 100000 in
/-- THE LAW, from its entry -/
theorem whole_start {p : Program} {e : Env} {s : State} {m : MethodId} {below : List Frame} {meth : Method} {c : Code} (l : Launch) (hflags : l.flags = flags0) {b L : Nat} {xs : Nat → Int32} (hL : L ≤ 2048) (C0 : lw_At p s m meth c b L xs) : W p l e room_1 s m #[Value.ref b] below meth c s.heap [] 0 0 (lw_Z below #[Value.ref b] s) (entryFrame m ([Value.ref b] : List Value).toArray 9) := by
  obtain ⟨hx, hb, hr, hml, hown, hts0, hX, hbl, hlocks, hgv⟩ := id C0
  have hl0 : l.stackTraces = false := by
    show (!l.flags.contains noTraceFlag) = false
    rw [hflags]; decide +kernel
  have hT : kr_T s := kr_T0 hts0 hgv
  have hts : ∀ w ∈ kr_all, w.before #[Value.ref b] s = true := fun w hw => hts0 w (List.mem_filter.mp hw).1
  have hown : s.vm.findClass RL = some m.cls := hown
  have hb : c.code = cL_law := hb
  have hA : ∀ q : Nat, s.heap.size ≤ q → (kr_new s) q := fun _ h => h
  obtain ⟨ca, iS0, hKn0⟩ := u_known (C := RX0) (T := TX0) (N := 10) (n := 10) hts kr_wsX0 (hts _ kq_58)
  obtain ⟨cb, iS1, hKn1⟩ := u_known (C := RX1) (T := TX1) (N := 11) (n := 11) hts kr_wsX1 (hts _ kq_537)
  obtain ⟨D, hKc⟩ : ∃ D : va_G, ∀ (k : Nat) (q : vw_C), vwCl[k]? = some q → u_Kn s q.1 q.2.1 q.2.2 (D.1 k) (D.2 k) := by
    refine ⟨(fun k => if k = 0 then ca else cb, fun k => if k = 0 then iS0 else iS1), ?_⟩
    intro k q hq
    match k, hq with
    | 0, hq => cases hq; exact hKn0
    | 1, hq => cases hq; exact hKn1
    | k + 2, hq => simp [vwCl] at hq
  have hS : va_S (kr_new s) s.heap s.heap [] := va_S.rf
  have hK : va_K D vwCl [] s := ⟨hKc, fun k q h => by simp at h⟩
  have hP : va_P D vwCl [] s.heap := fun k q h => by simp at h
  have hD : va_D (kr_new s) [] := ⟨fun i j p q h => by simp at h, fun k q h => by simp at h⟩
  have hl := lv_entry ([.ref b]) (n := 9) (Nat.le_of_ble_eq_true rfl)
  rw [lg_entry_eq]
  generalize (lg_sl ([.ref b]) ++ List.replicate (9 - (lg_sl ([.ref b])).length) Slot.unset).toArray = ls at hl ⊢
  have hl : lv_has ls 9 [(0, .ref b)] := hl
  refine va_new (ci := 0) (fs := [.null, .null, .null, .null, .null, .int 0, .null, .int 0, .null, .null]) (C := RX0) (T := TX0) (N := 10) hx hb hts kr_wsX0 tyX0 tyX0_ok hown (hts _ kq_57) (hts _ kq_58) (hts _ kq_48) hK hP hD hS hA rfl (fun j hj => by rcases (show j = 0 ∨ j = 1 ∨ j = 2 ∨ j = 3 ∨ j = 4 ∨ j = 5 ∨ j = 6 ∨ j = 7 ∨ j = 8 ∨ j = 9 by omega) with rfl | rfl | rfl | rfl | rfl | rfl | rfl | rfl | rfl | rfl <;> rfl) (Nat.le_of_ble_eq_true rfl) (Nat.le_of_ble_eq_true rfl) dL_law_0 (fun q0 H hP hD hS => ?_)
  have hP : va_P D vwCl [(q0, .inr (0, [.null, .null, .null, .null, .null, .int 0, .null, .int 0, .null, .null]))] H := hP
  have hD : va_D (kr_new s) [(q0, .inr (0, [.null, .null, .null, .null, .null, .int 0, .null, .int 0, .null, .null]))] := hD
  refine lv_dup hx hb dL_law_3 rfl ?_
  refine kr_cV (V := ClassId × (Nat → Nat)) (w1 := fun u => kr_W0 u.1 q0 u.2 0 0 (fun _ _ => 0)) (ws1 := fun u => kr_W0 u.1 q0 u.2 0 0 (fun _ _ => 0)) (wc := [(q0, .inr (0, [.null, .null, .null, .null, .null, .int 0, .null, .int 0, .null, .null]))]) (wr := []) [0] [] [0, 1, 2, 3, 4, 5, 6, 7, 8]
    (va_runI (As := []) (rest := [.ref q0]) ⟨hx, hb, hml, hown, hts⟩ (c_X0_init l D q0 H.size) (cwI 0 hts (kr_gC kq_61) rfl rfl rfl (hts _ kq_48) (hts _ kq_59) (hts _ kq_60) rfl (by decide +kernel) ⟨Nat.le_of_ble_eq_true rfl, Nat.le_of_ble_eq_true rfl⟩) ⟨fun a U g mk q => by obtain ⟨w0, w1, qP, qK, qD⟩ := q; exact ⟨w0, w1, qP, va_K.moved (u := U) (U := U.calling g mk a) (Vm.Alike.refl U.vm) qK, qD⟩, fun U hU hW => ⟨rfl, by rw [hU], by rw [hU]; exact hP, va_K.moved hW.alike hK, hD.weaken (fun _ _ _ _ => trivial)⟩⟩ rfl rfl hl.1 rfl (lv_room (Nat.le_of_ble_eq_true rfl)) dL_law_4 ⟨Nat.le_of_ble_eq_true rfl, Nat.le_of_ble_eq_true rfl⟩)
    (fun _ t h9 => ⟨h9.1, h9.2.2⟩) rfl rfl rfl (by decide) (fun _ => rfl) (by decide) hP hD hS hA (fun u t H locs ht hvm hB _ hP hD hS => ?_)
  obtain ⟨cy, a⟩ := u
  have hK : va_K D vwCl [(cy, .int)] s := va_K.moved hvm.symm hB.2.1
  have hP : va_P D vwCl (kr_W0 cy q0 a 0 0 (fun _ _ => 0)) H := hP
  have hD : va_D (kr_new s) (kr_W0 cy q0 a 0 0 (fun _ _ => 0)) := hD
  clear hB ht hvm
  refine W.widen (k := 9) (n := 156) (by decide) (by decide) ?_
  refine lv_astore_n (lv' := [(1, .ref q0), (0, .ref b)]) hx hb dL_law_7 rfl hl (by decide) rfl (fun ls hl => ?_)
  refine va_new (ci := 1) (fs := [.int 0, .int 0, .null, .null, .null, .null, .null, .int 0, .null, .null, .null]) (C := RX1) (T := TX1) (N := 11) hx hb hts kr_wsX1 tyX1 tyX1_ok hown (hts _ kq_536) (hts _ kq_537) (hts _ kq_49) hK hP hD hS hA rfl (fun j hj => by rcases (show j = 0 ∨ j = 1 ∨ j = 2 ∨ j = 3 ∨ j = 4 ∨ j = 5 ∨ j = 6 ∨ j = 7 ∨ j = 8 ∨ j = 9 ∨ j = 10 by omega) with rfl | rfl | rfl | rfl | rfl | rfl | rfl | rfl | rfl | rfl | rfl <;> rfl) (Nat.le_of_ble_eq_true rfl) (Nat.le_of_ble_eq_true rfl) dL_law_8 (fun q1 H hP hD hS => ?_)
  refine lv_dup hx hb dL_law_11 rfl ?_
  have hP1 : va_P D vwCl [(q1, .inr (1, [.int 0, .int 0, .null, .null, .null, .null, .null, .int 0, .null, .null, .null]))] H := hP.sub [9] rfl
  have hD1 : va_D (kr_new s) [(q1, .inr (1, [.int 0, .int 0, .null, .null, .null, .null, .null, .int 0, .null, .null, .null]))] := hD.sub [9] (by decide) rfl
  refine kr_cV (V := Nat → Nat) (w1 := fun u => kr_W1 cy q1 u 0 0 0 (fun _ _ => 0)) (ws1 := fun u => kr_W0 cy q0 a 0 0 (fun _ _ => 0) ++ kr_W1 cy q1 u 0 0 0 (fun _ _ => 0)) (wc := [(q1, .inr (1, [.int 0, .int 0, .null, .null, .null, .null, .null, .int 0, .null, .null, .null]))]) (wr := kr_W0 cy q0 a 0 0 (fun _ _ => 0)) [9] [0, 1, 2, 3, 4, 5, 6, 7, 8] [0, 1, 2, 3, 4, 5, 6, 7, 8, 9, 10, 11, 12, 13, 14, 15, 16, 17]
    (va_runI (As := []) (rest := [.ref q1]) ⟨hx, hb, hml, hown, hts⟩ (c_X1_init l D cy q1 H.size) (cwI 0 hts (kr_gC kq_540) rfl rfl rfl (hts _ kq_49) (hts _ kq_538) (hts _ kq_539) rfl (by decide +kernel) ⟨Nat.le_of_ble_eq_true rfl, Nat.le_of_ble_eq_true rfl⟩) ⟨fun a U g mk q => by obtain ⟨w0, w1, qP, qK, qD⟩ := q; exact ⟨w0, w1, qP, va_K.moved (u := U) (U := U.calling g mk a) (Vm.Alike.refl U.vm) qK, qD⟩, fun U hU hW => ⟨rfl, by rw [hU], by rw [hU]; exact hP1, va_K.moved hW.alike hK, hD1.weaken (fun _ _ _ _ => trivial)⟩⟩ rfl rfl hl.1 rfl (lv_room (Nat.le_of_ble_eq_true rfl)) dL_law_12 ⟨Nat.le_of_ble_eq_true rfl, Nat.le_of_ble_eq_true rfl⟩)
    (fun _ t h9 => ⟨h9.1, h9.2.2⟩) rfl rfl rfl (by decide) (fun _ => rfl) (by decide) hP hD hS hA (fun a' t H locs ht hvm hB _ hP hD hS => ?_)
  clear hB ht hvm hP1 hD1
  refine W.widen (k := 18) (n := 313) (by decide) (by decide) ?_
  refine lv_astore_n (lv' := [(2, .ref q1), (1, .ref q0), (0, .ref b)]) hx hb dL_law_15 rfl hl (by decide) rfl (fun ls hl => ?_)
  refine lv_iconst (v := 1) hx hb dL_law_16 (by decide) ?_
  refine va_newa (atype := .long) hx hb (hts _ kq_809) rfl hK hP hD hS hA (a0 := (1, .inr (.inl (fun _ => 0)))) (N' := 1) (fun _ => rfl) (by decide) (by decide) (by decide) (Nat.le_of_ble_eq_true rfl) (Nat.le_of_ble_eq_true rfl) dL_law_17 (fun o cl H hK hP hD hS => ?_)
  refine W.widen (k := 19) (n := 314) (by decide) (by decide) ?_
  refine lv_astore_n (lv' := [(3, .ref o), (2, .ref q1), (1, .ref q0), (0, .ref b)]) hx hb dL_law_19 rfl hl (by decide) rfl (fun ls hl => ?_)
  refine lv_iconst (v := 0) hx hb dL_law_20 (by decide) ?_
  refine lv_istore (lv' := [(4, .int 0), (3, .ref o), (2, .ref q1), (1, .ref q0), (0, .ref b)]) hx hb dL_law_21 hl (by decide) rfl (fun ls hl => ?_)
  exact law_loop C0 hL hl0 hT hK hP hD hS (lv_sub hl [4, 3, 2, 1, 0] rfl)
