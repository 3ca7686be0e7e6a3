/-! the catalogue by hand: its cells, and one instruction's effect on them -/
abbrev kr_cK (cy : ClassId) (ad : Nat → Nat → Nat) (A : Nat → Nat → Int32) (k : Nat) : Nat × va_E := (ad 1 k, .inl (cy, 5, .inl (fun j => if j < 5 then A j k else 0)))
abbrev kr_cR (cy : ClassId) (ad : Nat → Nat → Nat) (A : Nat → Nat → Int32) (n : Nat → Nat) (q : Nat) : Nat × va_E := (ad 2 q, .inl (cy, n q, .inl (fun j => if j < n q then A 7 (5 * q + j) else 0)))
abbrev kr_cT (cy : ClassId) (ad : Nat → Nat → Nat) (A : Nat → Nat → Int32) (n : Nat → Nat) (q : Nat) : Nat × va_E := (ad 3 q, .inl (cy, n q, .inl (fun j => if j < n q then A 6 (5 * q + j) else 0)))
abbrev kr_cO (cz : ClassId) (ad : Nat → Nat → Nat) (i n : Nat) : Nat × va_E := (ad 0 i, .inl (cz, n, .inr (.inr (.inr (.inr (fun k => some (ad (i + 1) k)))))))
abbrev kr_X4 (cz : ClassId) (g : Nat) (ad : Nat → Nat → Nat) (N LR LT : Nat) : va_W := [(g, .inr (1, [.ref (ad 0 0), .ref (ad 0 1), .ref (ad 0 2)])), kr_cO cz ad 0 N, kr_cO cz ad 1 LR, kr_cO cz ad 2 LT]
abbrev kr_SG (cy cz : ClassId) (g : Nat) (ad : Nat → Nat → Nat) (N LR LT : Nat) (A : Nat → Nat → Int32) (nR nT : Nat → Nat) : va_W := ((kr_X4 cz g ad N LR LT ++ kr_rw N (kr_cK cy ad A)) ++ kr_rw LR (kr_cR cy ad A nR)) ++ kr_rw LT (kr_cT cy ad A nT)
abbrev kr_SW (cy cz : ClassId) (g : Nat) (ad : Nat → Nat → Nat) (N L : Nat) (A : Nat → Nat → Int32) : va_W := kr_SG cy cz g ad N L L A (kr_rc A) (kr_rc A)
section KRSG
variable {cy cz : ClassId} {g : Nat} {ad ad' : Nat → Nat → Nat} {N LR LT k : Nat} {A A' : Nat → Nat → Int32} {nR nT nR' nT' : Nat → Nat} {v : Nat × va_E}
theorem kr_gK (hk : k < N) : (kr_SG cy cz g ad N LR LT A nR nT)[4 + k]? = some (kr_cK cy ad A k) := kr_gl (kr_gl (kr_gr (ws := kr_X4 cz g ad N LR LT) (kr_rw_get hk)))
theorem kr_gR (hk : k < LR) : (kr_SG cy cz g ad N LR LT A nR nT)[4 + N + k]? = some (kr_cR cy ad A nR k) := kr_gl (by
  have h := kr_gr (ws := kr_X4 cz g ad N LR LT ++ kr_rw N (kr_cK cy ad A)) (kr_rw_get (F := kr_cR cy ad A nR) hk)
  rw [List.length_append, kr_rw_len] at h; exact h)
theorem kr_gT (hk : k < LT) : (kr_SG cy cz g ad N LR LT A nR nT)[4 + N + LR + k]? = some (kr_cT cy ad A nT k) := by
  have h := kr_gr (ws := (kr_X4 cz g ad N LR LT ++ kr_rw N (kr_cK cy ad A)) ++ kr_rw LR (kr_cR cy ad A nR)) (kr_rw_get (F := kr_cT cy ad A nT) hk)
  rw [List.length_append, List.length_append, kr_rw_len, kr_rw_len] at h; exact h
theorem kr_SGcg (h0 : kr_X4 cz g ad' N LR LT = kr_X4 cz g ad N LR LT) (h1 : ∀ i, i < N → kr_cK cy ad' A' i = kr_cK cy ad A i) (h2 : ∀ i, i < LR → kr_cR cy ad' A' nR' i = kr_cR cy ad A nR i) (h3 : ∀ i, i < LT → kr_cT cy ad' A' nT' i = kr_cT cy ad A nT i) : kr_SG cy cz g ad' N LR LT A' nR' nT' = kr_SG cy cz g ad N LR LT A nR nT := by
  show ((kr_X4 cz g ad' N LR LT ++ kr_rw N (kr_cK cy ad' A')) ++ kr_rw LR (kr_cR cy ad' A' nR')) ++ kr_rw LT (kr_cT cy ad' A' nT') = _
  rw [h0, kr_rw_cg h1, kr_rw_cg h2, kr_rw_cg h3]
theorem kr_cKe {i : Nat} (h : ∀ j, j < 5 → A' j i = A j i) : kr_cK cy ad A' i = kr_cK cy ad A i := by
  have e : (fun j => if j < 5 then A' j i else (0 : Int32)) = (fun j => if j < 5 then A j i else 0) := by
    funext j
    by_cases hj : j < 5
    · rw [if_pos hj, if_pos hj, h j hj]
    · rw [if_neg hj, if_neg hj]
  show (ad 1 i, Sum.inl (cy, 5, Sum.inl (fun j => if j < 5 then A' j i else (0 : Int32)))) = _
  rw [e]
theorem kr_cRe {i : Nat} (hn : nR' i = nR i) (h : ∀ j, j < nR i → A' 7 (5 * i + j) = A 7 (5 * i + j)) : kr_cR cy ad A' nR' i = kr_cR cy ad A nR i := by
  have e : (fun j => if j < nR i then A' 7 (5 * i + j) else (0 : Int32)) = (fun j => if j < nR i then A 7 (5 * i + j) else 0) := by
    funext j
    by_cases hj : j < nR i
    · rw [if_pos hj, if_pos hj, h j hj]
    · rw [if_neg hj, if_neg hj]
  show (ad 2 i, Sum.inl (cy, nR' i, Sum.inl (fun j => if j < nR' i then A' 7 (5 * i + j) else (0 : Int32)))) = _
  rw [hn, e]
theorem kr_cTe {i : Nat} (hn : nT' i = nT i) (h : ∀ j, j < nT i → A' 6 (5 * i + j) = A 6 (5 * i + j)) : kr_cT cy ad A' nT' i = kr_cT cy ad A nT i := by
  have e : (fun j => if j < nT i then A' 6 (5 * i + j) else (0 : Int32)) = (fun j => if j < nT i then A 6 (5 * i + j) else 0) := by
    funext j
    by_cases hj : j < nT i
    · rw [if_pos hj, if_pos hj, h j hj]
    · rw [if_neg hj, if_neg hj]
  show (ad 3 i, Sum.inl (cy, nT' i, Sum.inl (fun j => if j < nT' i then A' 6 (5 * i + j) else (0 : Int32)))) = _
  rw [hn, e]
/-- the same world, its rows said otherwise -/
theorem kr_SGe (h1 : ∀ i, i < N → ∀ j, j < 5 → A' j i = A j i) (h2 : ∀ i, i < LR → nR' i = nR i ∧ ∀ j, j < nR i → A' 7 (5 * i + j) = A 7 (5 * i + j)) (h3 : ∀ i, i < LT → nT' i = nT i ∧ ∀ j, j < nT i → A' 6 (5 * i + j) = A 6 (5 * i + j)) : kr_SG cy cz g ad N LR LT A' nR' nT' = kr_SG cy cz g ad N LR LT A nR nT := kr_SGcg rfl (fun i hi => kr_cKe (h1 i hi)) (fun i hi => kr_cRe (h2 i hi).1 (h2 i hi).2) (fun i hi => kr_cTe (h3 i hi).1 (h3 i hi).2)
/-- one cell set -/
theorem kr_sK (hk : k < N) (h1 : ∀ i, i < N → kr_cK cy ad A' i = if i = k then v else kr_cK cy ad A i) (h2 : ∀ i, i < LR → kr_cR cy ad A' nR i = kr_cR cy ad A nR i) (h3 : ∀ i, i < LT → kr_cT cy ad A' nT i = kr_cT cy ad A nT i) : (kr_SG cy cz g ad N LR LT A nR nT).set (4 + k) v = kr_SG cy cz g ad N LR LT A' nR nT := by
  have l0 : (kr_X4 cz g ad N LR LT).length = 4 := rfl
  have l1 : (kr_X4 cz g ad N LR LT ++ kr_rw N (kr_cK cy ad A)).length = 4 + N := by rw [List.length_append, kr_rw_len]; rfl
  have l2 : ((kr_X4 cz g ad N LR LT ++ kr_rw N (kr_cK cy ad A)) ++ kr_rw LR (kr_cR cy ad A nR)).length = 4 + N + LR := by rw [List.length_append, kr_rw_len, l1]
  rw [List.set_append_left _ _ (by rw [l2]; omega), List.set_append_left _ _ (by rw [l1]; omega), List.set_append_right _ _ (by rw [l0]; omega), l0, Nat.add_sub_cancel_left, kr_rw_set, kr_rw_cg (fun i hi => (h1 i hi).symm), kr_rw_cg (fun i hi => (h2 i hi).symm), kr_rw_cg (fun i hi => (h3 i hi).symm)]
theorem kr_sR (hk : k < LR) (h0 : kr_X4 cz g ad' N LR LT = kr_X4 cz g ad N LR LT) (h1 : ∀ i, i < N → kr_cK cy ad' A' i = kr_cK cy ad A i) (h2 : ∀ i, i < LR → kr_cR cy ad' A' nR' i = if i = k then v else kr_cR cy ad A nR i) (h3 : ∀ i, i < LT → kr_cT cy ad' A' nT i = kr_cT cy ad A nT i) : (kr_SG cy cz g ad N LR LT A nR nT).set (4 + N + k) v = kr_SG cy cz g ad' N LR LT A' nR' nT := by
  have l1 : (kr_X4 cz g ad N LR LT ++ kr_rw N (kr_cK cy ad A)).length = 4 + N := by rw [List.length_append, kr_rw_len]; rfl
  have l2 : ((kr_X4 cz g ad N LR LT ++ kr_rw N (kr_cK cy ad A)) ++ kr_rw LR (kr_cR cy ad A nR)).length = 4 + N + LR := by rw [List.length_append, kr_rw_len, l1]
  rw [List.set_append_left _ _ (by rw [l2]; omega), List.set_append_right _ _ (by rw [l1]; omega), l1, Nat.add_sub_cancel_left, kr_rw_set, ← h0, kr_rw_cg (fun i hi => (h1 i hi).symm), kr_rw_cg (fun i hi => (h2 i hi).symm), kr_rw_cg (fun i hi => (h3 i hi).symm)]
theorem kr_sT (hk : k < LT) (h0 : kr_X4 cz g ad' N LR LT = kr_X4 cz g ad N LR LT) (h1 : ∀ i, i < N → kr_cK cy ad' A' i = kr_cK cy ad A i) (h2 : ∀ i, i < LR → kr_cR cy ad' A' nR i = kr_cR cy ad A nR i) (h3 : ∀ i, i < LT → kr_cT cy ad' A' nT' i = if i = k then v else kr_cT cy ad A nT i) : (kr_SG cy cz g ad N LR LT A nR nT).set (4 + N + LR + k) v = kr_SG cy cz g ad' N LR LT A' nR nT' := by
  have l1 : (kr_X4 cz g ad N LR LT ++ kr_rw N (kr_cK cy ad A)).length = 4 + N := by rw [List.length_append, kr_rw_len]; rfl
  have l2 : ((kr_X4 cz g ad N LR LT ++ kr_rw N (kr_cK cy ad A)) ++ kr_rw LR (kr_cR cy ad A nR)).length = 4 + N + LR := by rw [List.length_append, kr_rw_len, l1]
  rw [List.set_append_right _ _ (by rw [l2]; omega), l2, Nat.add_sub_cancel_left, kr_rw_set, ← h0, kr_rw_cg (fun i hi => (h1 i hi).symm), kr_rw_cg (fun i hi => (h2 i hi).symm), kr_rw_cg (fun i hi => (h3 i hi).symm)]
theorem kr_sX {X : va_W} {i : Nat} (hi : i < X.length) {a b c : va_W} : (((X ++ a) ++ b) ++ c).set i v = (((X.set i v) ++ a) ++ b) ++ c := by
  rw [List.set_append_left _ _ (by rw [List.length_append, List.length_append]; omega), List.set_append_left _ _ (by rw [List.length_append]; omega), List.set_append_left _ _ hi]
theorem kr_SGlen : (kr_SG cy cz g ad N LR LT A nR nT).length = 4 + N + LR + LT := by
  rw [List.length_append, List.length_append, List.length_append, kr_rw_len, kr_rw_len, kr_rw_len]; rfl
end KRSG
theorem kr_adN (ad : Nat → Nat → Nat) {i k q j : Nat} (h : j ≠ i) : kr_ad ad i k q j = ad j := va_up_ne _ _ h
theorem kr_adE (ad : Nat → Nat → Nat) (i k q : Nat) : kr_ad ad i k q i = va_up (ad i) k q := va_up_self _ _ _
theorem kr_ad0 (ad : Nat → Nat → Nat) {i k q : Nat} : kr_ad ad i k q i k = q := by rw [kr_adE, va_up_self]
theorem kr_adO (ad : Nat → Nat → Nat) {i k q j : Nat} (h : j ≠ k) : kr_ad ad i k q i j = ad i j := by rw [kr_adE, va_up_ne _ _ h]
theorem kr_ljset {w ws : va_W} {i : Nat} {v : Nat × va_E} : (w ++ ws).set (w.length + i) v = w ++ ws.set i v := by
  rw [List.set_append_right _ _ (by omega), Nat.add_sub_cancel_left]
section KRSI
variable {p : Program} {l : Launch} {e : Env} {R : Room} {s : State} {m : MethodId} {args : Array Value} {below : List Frame} {meth : Method} {c : Code} {H : Heap} {locs : List Loc} {cells slots : Nat} {Q : State → Prop} {cc : ByteArray} {pc : Nat} {ls : Array Slot} {rest st0 : List Value} {D : va_G} {w : va_W} {cy cz : ClassId} {AA BB : Nat → Prop} {H0 : Heap} {g : Nat} {ad : Nat → Nat → Nat} {N LR LT : Nat} {A : Nat → Nat → Int32} {nR nT : Nat → Nat}
/-- reads -/
theorem kr_rdK (hx : p.tables.exec = Jvm.exec) (hb : c.code = cc) (hK : va_K D vwCl [(cy, .int), (cz, .array .int)] s) (hP : va_P D vwCl (kr_SG cy cz g ad N LR LT A nR nT) H) {k : Nat} (hk : k < N) (j : Nat) (hj : j < 5) (hdg : decode cc pc = .ok (.iaload, 1))
    (kk : W p l e R s m args below meth c H locs cells slots Q (F0 m (pc + 1) ls (.int (A j k) :: rest))) : W p l e R s m args below meth c H locs cells slots Q (F0 m pc ls (.int (nI j) :: .ref (ad 1 k) :: rest)) := kr_ald hx hb hK hP (4 + k) 0 (kr_gK hk) rfl j hj (by decide) hdg (by show W _ _ _ _ _ _ _ _ _ _ _ _ _ _ _ (F0 _ _ _ (.int (if j < 5 then A j k else 0) :: _)); rw [if_pos hj]; exact kk)
theorem kr_rdR (hx : p.tables.exec = Jvm.exec) (hb : c.code = cc) (hK : va_K D vwCl [(cy, .int), (cz, .array .int)] s) (hP : va_P D vwCl (kr_SG cy cz g ad N LR LT A nR nT) H) {q : Nat} (hq : q < LR) (j : Nat) (hj : j < nR q) (hn : nR q < 2 ^ 31) (hdg : decode cc pc = .ok (.iaload, 1))
    (kk : W p l e R s m args below meth c H locs cells slots Q (F0 m (pc + 1) ls (.int (A 7 (5 * q + j)) :: rest))) : W p l e R s m args below meth c H locs cells slots Q (F0 m pc ls (.int (nI j) :: .ref (ad 2 q) :: rest)) := kr_ald hx hb hK hP (4 + N + q) 0 (kr_gR hq) rfl j hj hn hdg (by show W _ _ _ _ _ _ _ _ _ _ _ _ _ _ _ (F0 _ _ _ (.int (if j < nR q then A 7 (5 * q + j) else 0) :: _)); rw [if_pos hj]; exact kk)
theorem kr_rdT (hx : p.tables.exec = Jvm.exec) (hb : c.code = cc) (hK : va_K D vwCl [(cy, .int), (cz, .array .int)] s) (hP : va_P D vwCl (kr_SG cy cz g ad N LR LT A nR nT) H) {q : Nat} (hq : q < LT) (j : Nat) (hj : j < nT q) (hn : nT q < 2 ^ 31) (hdg : decode cc pc = .ok (.iaload, 1))
    (kk : W p l e R s m args below meth c H locs cells slots Q (F0 m (pc + 1) ls (.int (A 6 (5 * q + j)) :: rest))) : W p l e R s m args below meth c H locs cells slots Q (F0 m pc ls (.int (nI j) :: .ref (ad 3 q) :: rest)) := kr_ald hx hb hK hP (4 + N + LR + q) 0 (kr_gT hq) rfl j hj hn hdg (by show W _ _ _ _ _ _ _ _ _ _ _ _ _ _ _ (F0 _ _ _ (.int (if j < nT q then A 6 (5 * q + j) else 0) :: _)); rw [if_pos hj]; exact kk)
theorem kr_rdO (hx : p.tables.exec = Jvm.exec) (hb : c.code = cc) (hK : va_K D vwCl [(cy, .int), (cz, .array .int)] s) (hP : va_P D vwCl (kr_SG cy cz g ad N LR LT A nR nT) H) (i n : Nat) (hi : (kr_X4 cz g ad N LR LT)[1 + i]? = some (kr_cO cz ad i n)) (k : Nat) (hk : k < n) (hn : n < 2 ^ 31) (hdg : decode cc pc = .ok (.aaload, 1))
    (kk : W p l e R s m args below meth c H locs cells slots Q (F0 m (pc + 1) ls (.ref (ad (i + 1) k) :: rest))) : W p l e R s m args below meth c H locs cells slots Q (F0 m pc ls (.int (nI k) :: .ref (ad 0 i) :: rest)) := kr_aldq hx hb hK hP (1 + i) (kr_gl (kr_gl (kr_gl hi))) k hk hn rfl hdg kk
theorem kr_lnO (hx : p.tables.exec = Jvm.exec) (hb : c.code = cc) (hK : va_K D vwCl [(cy, .int), (cz, .array .int)] s) (hP : va_P D vwCl (kr_SG cy cz g ad N LR LT A nR nT) H) (i n : Nat) (hi : (kr_X4 cz g ad N LR LT)[1 + i]? = some (kr_cO cz ad i n)) (hdg : decode cc pc = .ok (.arraylength, 1))
    (kk : W p l e R s m args below meth c H locs cells slots Q (F0 m (pc + 1) ls (.int (nI n) :: rest))) : W p l e R s m args below meth c H locs cells slots Q (F0 m pc ls (.ref (ad 0 i) :: rest)) := va_alen hx hb hK hP (1 + i) 1 (kr_gl (kr_gl (kr_gl hi))) rfl rfl hdg kk
theorem kr_lnR (hx : p.tables.exec = Jvm.exec) (hb : c.code = cc) (hK : va_K D vwCl [(cy, .int), (cz, .array .int)] s) (hP : va_P D vwCl (kr_SG cy cz g ad N LR LT A nR nT) H) {q : Nat} (hq : q < LR) (hdg : decode cc pc = .ok (.arraylength, 1))
    (kk : W p l e R s m args below meth c H locs cells slots Q (F0 m (pc + 1) ls (.int (nI (nR q)) :: rest))) : W p l e R s m args below meth c H locs cells slots Q (F0 m pc ls (.ref (ad 2 q) :: rest)) := va_alen hx hb hK hP (4 + N + q) 0 (kr_gR hq) rfl rfl hdg kk
theorem kr_lnT (hx : p.tables.exec = Jvm.exec) (hb : c.code = cc) (hK : va_K D vwCl [(cy, .int), (cz, .array .int)] s) (hP : va_P D vwCl (kr_SG cy cz g ad N LR LT A nR nT) H) {q : Nat} (hq : q < LT) (hdg : decode cc pc = .ok (.arraylength, 1))
    (kk : W p l e R s m args below meth c H locs cells slots Q (F0 m (pc + 1) ls (.int (nI (nT q)) :: rest))) : W p l e R s m args below meth c H locs cells slots Q (F0 m pc ls (.ref (ad 3 q) :: rest)) := va_alen hx hb hK hP (4 + N + LR + q) 0 (kr_gT hq) rfl rfl hdg kk
/-- an int into a knot's row -/
theorem kr_wrK (hx : p.tables.exec = Jvm.exec) (hb : c.code = cc) (hK : va_K D vwCl [(cy, .int), (cz, .array .int)] s) (hP : va_P D vwCl (w ++ kr_SG cy cz g ad N LR LT A nR nT) H) (hD : va_D AA (w ++ kr_SG cy cz g ad N LR LT A nR nT)) (hS : va_S AA H0 H locs) {k : Nat} (hk : k < N) (j : Nat) (hj : j < 5) {x : Int32} (hdg : decode cc pc = .ok (.iastore, 1))
    (kk : ∀ (H1 : Heap) (locs1 : List Loc), va_P D vwCl (w ++ kr_SG cy cz g ad N LR LT (kr_up A j (upd (A j) k x)) nR nT) H1 → va_D AA (w ++ kr_SG cy cz g ad N LR LT (kr_up A j (upd (A j) k x)) nR nT) → va_S AA H0 H1 locs1 → W p l e R s m args below meth c H1 locs1 cells slots Q (F0 m (pc + 1) ls rest)) : W p l e R s m args below meth c H locs cells slots Q (F0 m pc ls (.int x :: .int (nI j) :: .ref (ad 1 k) :: rest)) := by
  have hg := kr_gr (ws := w) (kr_gK (cy := cy) (cz := cz) (g := g) (ad := ad) (LR := LR) (LT := LT) (A := A) (nR := nR) (nT := nT) hk)
  have e : (w ++ kr_SG cy cz g ad N LR LT A nR nT).set (w.length + (4 + k)) (ad 1 k, .inl (cy, 5, .inl (upd (fun j => if j < 5 then A j k else 0) j x))) = w ++ kr_SG cy cz g ad N LR LT (kr_up A j (upd (A j) k x)) nR nT := by
    rw [kr_ljset, kr_sK hk (A' := kr_up A j (upd (A j) k x)) (fun i hi => ?_) (fun i hi => kr_cRe rfl (fun j2 _ => by rw [kr_upN _ _ (by omega)])) (fun i hi => kr_cTe rfl (fun j2 _ => by rw [kr_upN _ _ (by omega)]))]
    by_cases e1 : i = k
    · rw [if_pos e1, e1]
      show (ad 1 k, Sum.inl (cy, 5, Sum.inl (fun j2 => if j2 < 5 then kr_up A j (upd (A j) k x) j2 k else (0 : Int32)))) = _
      congr 5
      funext j2
      by_cases e2 : j2 = j
      · rw [e2, if_pos hj, kr_upS, pk_us, pk_us]
      · rw [pk_un e2, kr_upN _ _ e2]
    · rw [if_neg e1]
      refine kr_cKe (fun j2 _ => ?_)
      by_cases e2 : j2 = j
      · rw [e2, kr_upS, pk_un e1]
      · rw [kr_upN _ _ e2]
  refine kr_astF (tys := [(cz, .array .int)]) hx hb hK hP hD hS (hD.2 _ _ hg) (w.length + (4 + k)) hg j hj (by decide) hdg (fun H1 locs1 h1 h2 h3 => ?_)
  rw [e] at h1 h2
  exact kk H1 locs1 h1 h2 h3
theorem kr_wrR (hx : p.tables.exec = Jvm.exec) (hb : c.code = cc) (hK : va_K D vwCl [(cy, .int), (cz, .array .int)] s) (hP : va_P D vwCl (w ++ kr_SG cy cz g ad N LR LT A nR nT) H) (hD : va_D AA (w ++ kr_SG cy cz g ad N LR LT A nR nT)) (hS : va_S AA H0 H locs) {q : Nat} (hq : q < LR) (j : Nat) (hj : j < nR q) (h5 : ∀ i, i < LR → nR i ≤ 5) {x : Int32} (hdg : decode cc pc = .ok (.iastore, 1))
    (kk : ∀ (H1 : Heap) (locs1 : List Loc), va_P D vwCl (w ++ kr_SG cy cz g ad N LR LT (kr_up A 7 (upd (A 7) (5 * q + j) x)) nR nT) H1 → va_D AA (w ++ kr_SG cy cz g ad N LR LT (kr_up A 7 (upd (A 7) (5 * q + j) x)) nR nT) → va_S AA H0 H1 locs1 → W p l e R s m args below meth c H1 locs1 cells slots Q (F0 m (pc + 1) ls rest)) : W p l e R s m args below meth c H locs cells slots Q (F0 m pc ls (.int x :: .int (nI j) :: .ref (ad 2 q) :: rest)) := by
  have hg := kr_gr (ws := w) (kr_gR (cy := cy) (cz := cz) (g := g) (ad := ad) (N := N) (LT := LT) (A := A) (nR := nR) (nT := nT) hq)
  have hq5 := h5 q hq
  have e : (w ++ kr_SG cy cz g ad N LR LT A nR nT).set (w.length + (4 + N + q)) (ad 2 q, .inl (cy, nR q, .inl (upd (fun j => if j < nR q then A 7 (5 * q + j) else 0) j x))) = w ++ kr_SG cy cz g ad N LR LT (kr_up A 7 (upd (A 7) (5 * q + j) x)) nR nT := by
    rw [kr_ljset, kr_sR hq (ad' := ad) (A' := kr_up A 7 (upd (A 7) (5 * q + j) x)) (nR' := nR) rfl (fun i hi => kr_cKe (fun j2 h2 => by rw [kr_upN _ _ (by omega)])) (fun i hi => ?_) (fun i hi => kr_cTe rfl (fun j2 _ => by rw [kr_upN _ _ (by omega)]))]
    have hi5 := h5 i hi
    by_cases e1 : i = q
    · rw [if_pos e1, e1]
      show (ad 2 q, Sum.inl (cy, nR q, Sum.inl (fun j2 => if j2 < nR q then kr_up A 7 (upd (A 7) (5 * q + j) x) 7 (5 * q + j2) else (0 : Int32)))) = _
      congr 5
      funext j2
      rw [kr_upS]
      by_cases e2 : j2 = j
      · rw [e2, if_pos hj, pk_us, pk_us]
      · rw [pk_un e2, pk_un (by omega)]
    · rw [if_neg e1]
      refine kr_cRe rfl (fun j2 h2 => ?_)
      rw [kr_upS, pk_un (by omega)]
  refine kr_astF (tys := [(cz, .array .int)]) hx hb hK hP hD hS (hD.2 _ _ hg) (w.length + (4 + N + q)) hg j hj (by omega) hdg (fun H1 locs1 h1 h2 h3 => ?_)
  rw [e] at h1 h2
  exact kk H1 locs1 h1 h2 h3
theorem kr_wrT (hx : p.tables.exec = Jvm.exec) (hb : c.code = cc) (hK : va_K D vwCl [(cy, .int), (cz, .array .int)] s) (hP : va_P D vwCl (w ++ kr_SG cy cz g ad N LR LT A nR nT) H) (hD : va_D AA (w ++ kr_SG cy cz g ad N LR LT A nR nT)) (hS : va_S AA H0 H locs) {q : Nat} (hq : q < LT) (j : Nat) (hj : j < nT q) (h5 : ∀ i, i < LT → nT i ≤ 5) {x : Int32} (hdg : decode cc pc = .ok (.iastore, 1))
    (kk : ∀ (H1 : Heap) (locs1 : List Loc), va_P D vwCl (w ++ kr_SG cy cz g ad N LR LT (kr_up A 6 (upd (A 6) (5 * q + j) x)) nR nT) H1 → va_D AA (w ++ kr_SG cy cz g ad N LR LT (kr_up A 6 (upd (A 6) (5 * q + j) x)) nR nT) → va_S AA H0 H1 locs1 → W p l e R s m args below meth c H1 locs1 cells slots Q (F0 m (pc + 1) ls rest)) : W p l e R s m args below meth c H locs cells slots Q (F0 m pc ls (.int x :: .int (nI j) :: .ref (ad 3 q) :: rest)) := by
  have hg := kr_gr (ws := w) (kr_gT (cy := cy) (cz := cz) (g := g) (ad := ad) (N := N) (LR := LR) (A := A) (nR := nR) (nT := nT) hq)
  have hq5 := h5 q hq
  have e : (w ++ kr_SG cy cz g ad N LR LT A nR nT).set (w.length + (4 + N + LR + q)) (ad 3 q, .inl (cy, nT q, .inl (upd (fun j => if j < nT q then A 6 (5 * q + j) else 0) j x))) = w ++ kr_SG cy cz g ad N LR LT (kr_up A 6 (upd (A 6) (5 * q + j) x)) nR nT := by
    rw [kr_ljset, kr_sT hq (ad' := ad) (A' := kr_up A 6 (upd (A 6) (5 * q + j) x)) (nT' := nT) rfl (fun i hi => kr_cKe (fun j2 h2 => by rw [kr_upN _ _ (by omega)])) (fun i hi => kr_cRe rfl (fun j2 _ => by rw [kr_upN _ _ (by omega)])) (fun i hi => ?_)]
    have hi5 := h5 i hi
    by_cases e1 : i = q
    · rw [if_pos e1, e1]
      show (ad 3 q, Sum.inl (cy, nT q, Sum.inl (fun j2 => if j2 < nT q then kr_up A 6 (upd (A 6) (5 * q + j) x) 6 (5 * q + j2) else (0 : Int32)))) = _
      congr 5
      funext j2
      rw [kr_upS]
      by_cases e2 : j2 = j
      · rw [e2, if_pos hj, pk_us, pk_us]
      · rw [pk_un e2, pk_un (by omega)]
    · rw [if_neg e1]
      refine kr_cTe rfl (fun j2 h2 => ?_)
      rw [kr_upS, pk_un (by omega)]
  refine kr_astF (tys := [(cz, .array .int)]) hx hb hK hP hD hS (hD.2 _ _ hg) (w.length + (4 + N + LR + q)) hg j hj (by omega) hdg (fun H1 locs1 h1 h2 h3 => ?_)
  rw [e] at h1 h2
  exact kk H1 locs1 h1 h2 h3
/-- a new row for a line's ropes: the old one is left -/
theorem kr_woR (hx : p.tables.exec = Jvm.exec) (hb : c.code = cc) (hZ : kr_AO s) (hK : va_K D vwCl [(cy, .int), (cz, .array .int)] s) {q1 n1 : Nat} {f1 : Nat → Int32} (hP : va_P D vwCl ((w ++ kr_SG cy cz g ad N LR LT A nR nT) ++ [(q1, .inl (cy, n1, .inl f1))]) H) (hD : va_D AA ((w ++ kr_SG cy cz g ad N LR LT A nR nT) ++ [(q1, .inl (cy, n1, .inl f1))])) (hS : va_S AA H0 H locs) (k : Nat) (hk : k < LR) (hn : LR < 2 ^ 31) (A' : Nat → Nat → Int32) (hA : ∀ j, j ≠ 7 → A' j = A j) (hA7 : ∀ i, i < LR → i ≠ k → ∀ j, j < nR i → A' 7 (5 * i + j) = A 7 (5 * i + j)) (hA1 : ∀ j, j < n1 → f1 j = A' 7 (5 * k + j)) (hdg : decode cc pc = .ok (.aastore, 1))
    (kk : ∀ (H1 : Heap) (locs1 : List Loc), va_P D vwCl (w ++ kr_SG cy cz g (kr_ad ad 2 k q1) N LR LT A' (va_up nR k n1) nT) H1 → va_D AA (w ++ kr_SG cy cz g (kr_ad ad 2 k q1) N LR LT A' (va_up nR k n1) nT) → va_S AA H0 H1 locs1 → W p l e R s m args below meth c H1 locs1 cells slots Q (F0 m (pc + 1) ls rest)) : W p l e R s m args below meth c H locs cells slots Q (F0 m pc ls (.ref q1 :: .int (nI k) :: .ref (ad 0 1) :: rest)) := by
  have hg : ((w ++ kr_SG cy cz g ad N LR LT A nR nT) ++ [(q1, .inl (cy, n1, .inl f1))])[w.length + 2]? = some (kr_cO cz ad 1 LR) := kr_gl (kr_gr (ws := w) (i := 2) rfl)
  have hv : ((w ++ kr_SG cy cz g ad N LR LT A nR nT) ++ [(q1, .inl (cy, n1, .inl f1))])[(w ++ kr_SG cy cz g ad N LR LT A nR nT).length + 0]? = some (q1, .inl (cy, n1, .inl f1)) := kr_gr rfl
  refine kr_astq hx hb hZ hK hP hD hS (hD.2 _ _ hg) (w.length + 2) _ hg hv k hk hn hdg (fun H1 locs1 h1 h2 h3 => ?_)
  have lw : w.length + 2 < (w ++ kr_SG cy cz g ad N LR LT A nR nT).length := by rw [List.length_append, kr_SGlen]; omega
  rw [List.set_append_left _ _ lw, kr_ljset] at h1 h2
  have e1 : (kr_SG cy cz g ad N LR LT A nR nT).set 2 (ad 0 1, .inl (cz, LR, .inr (.inr (.inr (.inr (va_up (fun k => some (ad (1 + 1) k)) k (some q1))))))) = ((kr_X4 cz g (kr_ad ad 2 k q1) N LR LT ++ kr_rw N (kr_cK cy ad A)) ++ kr_rw LR (kr_cR cy ad A nR)) ++ kr_rw LT (kr_cT cy ad A nT) := by
    rw [kr_sX (show 2 < (kr_X4 cz g ad N LR LT).length from Nat.le_of_ble_eq_true rfl)]
    have e2 : va_up (fun k => some (ad (1 + 1) k)) k (some q1) = fun j => some (kr_ad ad 2 k q1 (1 + 1) j) := by
      funext j
      by_cases ej : j = k
      · rw [ej, va_up_self]; exact congrArg some (kr_ad0 ad).symm
      · rw [va_up_ne _ _ ej]; exact congrArg some (kr_adO ad ej).symm
    rw [e2]
    rfl
  rw [e1] at h1 h2
  have h1 := kr_Psw h1 (fun h => kr_cgI h (f' := fun j => if j < n1 then A' 7 (5 * k + j) else 0) (fun j hj => by rw [hA1 j hj, if_pos hj]))
  have h2 := kr_Dsw (e' := .inl (cy, n1, .inl (fun j => if j < n1 then A' 7 (5 * k + j) else 0))) h2
  have lq : ∀ X : va_W, X.length = 4 → w.length + (4 + N + k) < (w ++ (((X ++ kr_rw N (kr_cK cy ad A)) ++ kr_rw LR (kr_cR cy ad A nR)) ++ kr_rw LT (kr_cT cy ad A nT))).length := fun X hX => by
    rw [List.length_append, List.length_append, List.length_append, List.length_append, kr_rw_len, kr_rw_len, kr_rw_len, hX]; omega
  have h1 := kr_swP h1 (lq _ rfl)
  have h2 := kr_swD h2 (lq _ rfl)
  rw [kr_ljset] at h1 h2
  have e3 : (((kr_X4 cz g (kr_ad ad 2 k q1) N LR LT ++ kr_rw N (kr_cK cy ad A)) ++ kr_rw LR (kr_cR cy ad A nR)) ++ kr_rw LT (kr_cT cy ad A nT)).set (4 + N + k) (q1, .inl (cy, n1, .inl (fun j => if j < n1 then A' 7 (5 * k + j) else 0))) = kr_SG cy cz g (kr_ad ad 2 k q1) N LR LT A' (va_up nR k n1) nT := by
    have l1 : (kr_X4 cz g (kr_ad ad 2 k q1) N LR LT ++ kr_rw N (kr_cK cy ad A)).length = 4 + N := by rw [List.length_append, kr_rw_len]; rfl
    have l2 : ((kr_X4 cz g (kr_ad ad 2 k q1) N LR LT ++ kr_rw N (kr_cK cy ad A)) ++ kr_rw LR (kr_cR cy ad A nR)).length = 4 + N + LR := by rw [List.length_append, kr_rw_len, l1]
    rw [List.set_append_left _ _ (by rw [l2]; omega), List.set_append_right _ _ (by rw [l1]; omega), l1, Nat.add_sub_cancel_left, kr_rw_set]
    have a1 : kr_rw N (kr_cK cy (kr_ad ad 2 k q1) A') = kr_rw N (kr_cK cy ad A) := kr_rw_cg (fun i _ => kr_cKe (ad := ad) (fun j hj => by rw [hA j (by omega)]))
    have a3 : kr_rw LT (kr_cT cy (kr_ad ad 2 k q1) A' nT) = kr_rw LT (kr_cT cy ad A nT) := kr_rw_cg (fun i _ => kr_cTe (ad := ad) rfl (fun j _ => by rw [hA 6 (by decide)]))
    have a2 : kr_rw LR (kr_cR cy (kr_ad ad 2 k q1) A' (va_up nR k n1)) = kr_rw LR (fun i => if i = k then (q1, .inl (cy, n1, .inl (fun j => if j < n1 then A' 7 (5 * k + j) else 0))) else kr_cR cy ad A nR i) := by
      refine kr_rw_cg (fun i hi => ?_)
      by_cases ei : i = k
      · rw [if_pos ei, ei]
        show (kr_ad ad 2 k q1 2 k, Sum.inl (cy, va_up nR k n1 k, Sum.inl (fun j => if j < va_up nR k n1 k then A' 7 (5 * k + j) else (0 : Int32)))) = _
        rw [kr_ad0, va_up_self]
      · rw [if_neg ei]
        show (kr_ad ad 2 k q1 2 i, Sum.inl (cy, va_up nR k n1 i, Sum.inl (fun j => if j < va_up nR k n1 i then A' 7 (5 * i + j) else (0 : Int32)))) = _
        rw [kr_adO ad ei, va_up_ne _ _ ei]
        exact kr_cRe (ad := ad) (nR' := nR) rfl (hA7 i hi ei)
    show _ = ((kr_X4 cz g (kr_ad ad 2 k q1) N LR LT ++ kr_rw N (kr_cK cy (kr_ad ad 2 k q1) A')) ++ kr_rw LR (kr_cR cy (kr_ad ad 2 k q1) A' (va_up nR k n1))) ++ kr_rw LT (kr_cT cy (kr_ad ad 2 k q1) A' nT)
    rw [a1, a2, a3]
  rw [e3] at h1 h2
  exact kk H1 locs1 h1 h2 h3
theorem kr_woT (hx : p.tables.exec = Jvm.exec) (hb : c.code = cc) (hZ : kr_AO s) (hK : va_K D vwCl [(cy, .int), (cz, .array .int)] s) {q1 n1 : Nat} {f1 : Nat → Int32} (hP : va_P D vwCl ((w ++ kr_SG cy cz g ad N LR LT A nR nT) ++ [(q1, .inl (cy, n1, .inl f1))]) H) (hD : va_D AA ((w ++ kr_SG cy cz g ad N LR LT A nR nT) ++ [(q1, .inl (cy, n1, .inl f1))])) (hS : va_S AA H0 H locs) (k : Nat) (hk : k < LT) (hn : LT < 2 ^ 31) (A' : Nat → Nat → Int32) (hA : ∀ j, j ≠ 6 → A' j = A j) (hA7 : ∀ i, i < LT → i ≠ k → ∀ j, j < nT i → A' 6 (5 * i + j) = A 6 (5 * i + j)) (hA1 : ∀ j, j < n1 → f1 j = A' 6 (5 * k + j)) (hdg : decode cc pc = .ok (.aastore, 1))
    (kk : ∀ (H1 : Heap) (locs1 : List Loc), va_P D vwCl (w ++ kr_SG cy cz g (kr_ad ad 3 k q1) N LR LT A' nR (va_up nT k n1)) H1 → va_D AA (w ++ kr_SG cy cz g (kr_ad ad 3 k q1) N LR LT A' nR (va_up nT k n1)) → va_S AA H0 H1 locs1 → W p l e R s m args below meth c H1 locs1 cells slots Q (F0 m (pc + 1) ls rest)) : W p l e R s m args below meth c H locs cells slots Q (F0 m pc ls (.ref q1 :: .int (nI k) :: .ref (ad 0 2) :: rest)) := by
  have hg : ((w ++ kr_SG cy cz g ad N LR LT A nR nT) ++ [(q1, .inl (cy, n1, .inl f1))])[w.length + 3]? = some (kr_cO cz ad 2 LT) := kr_gl (kr_gr (ws := w) (i := 3) rfl)
  have hv : ((w ++ kr_SG cy cz g ad N LR LT A nR nT) ++ [(q1, .inl (cy, n1, .inl f1))])[(w ++ kr_SG cy cz g ad N LR LT A nR nT).length + 0]? = some (q1, .inl (cy, n1, .inl f1)) := kr_gr rfl
  refine kr_astq hx hb hZ hK hP hD hS (hD.2 _ _ hg) (w.length + 3) _ hg hv k hk hn hdg (fun H1 locs1 h1 h2 h3 => ?_)
  have lw : w.length + 3 < (w ++ kr_SG cy cz g ad N LR LT A nR nT).length := by rw [List.length_append, kr_SGlen]; omega
  rw [List.set_append_left _ _ lw, kr_ljset] at h1 h2
  have e1 : (kr_SG cy cz g ad N LR LT A nR nT).set 3 (ad 0 2, .inl (cz, LT, .inr (.inr (.inr (.inr (va_up (fun k => some (ad (2 + 1) k)) k (some q1))))))) = ((kr_X4 cz g (kr_ad ad 3 k q1) N LR LT ++ kr_rw N (kr_cK cy ad A)) ++ kr_rw LR (kr_cR cy ad A nR)) ++ kr_rw LT (kr_cT cy ad A nT) := by
    rw [kr_sX (show 3 < (kr_X4 cz g ad N LR LT).length from Nat.le_of_ble_eq_true rfl)]
    have e2 : va_up (fun k => some (ad (2 + 1) k)) k (some q1) = fun j => some (kr_ad ad 3 k q1 (2 + 1) j) := by
      funext j
      by_cases ej : j = k
      · rw [ej, va_up_self]; exact congrArg some (kr_ad0 ad).symm
      · rw [va_up_ne _ _ ej]; exact congrArg some (kr_adO ad ej).symm
    rw [e2]
    rfl
  rw [e1] at h1 h2
  have h1 := kr_Psw h1 (fun h => kr_cgI h (f' := fun j => if j < n1 then A' 6 (5 * k + j) else 0) (fun j hj => by rw [hA1 j hj, if_pos hj]))
  have h2 := kr_Dsw (e' := .inl (cy, n1, .inl (fun j => if j < n1 then A' 6 (5 * k + j) else 0))) h2
  have lq : ∀ X : va_W, X.length = 4 → w.length + (4 + N + LR + k) < (w ++ (((X ++ kr_rw N (kr_cK cy ad A)) ++ kr_rw LR (kr_cR cy ad A nR)) ++ kr_rw LT (kr_cT cy ad A nT))).length := fun X hX => by
    rw [List.length_append, List.length_append, List.length_append, List.length_append, kr_rw_len, kr_rw_len, kr_rw_len, hX]; omega
  have h1 := kr_swP h1 (lq _ rfl)
  have h2 := kr_swD h2 (lq _ rfl)
  rw [kr_ljset] at h1 h2
  have e3 : (((kr_X4 cz g (kr_ad ad 3 k q1) N LR LT ++ kr_rw N (kr_cK cy ad A)) ++ kr_rw LR (kr_cR cy ad A nR)) ++ kr_rw LT (kr_cT cy ad A nT)).set (4 + N + LR + k) (q1, .inl (cy, n1, .inl (fun j => if j < n1 then A' 6 (5 * k + j) else 0))) = kr_SG cy cz g (kr_ad ad 3 k q1) N LR LT A' nR (va_up nT k n1) := by
    have l1 : (kr_X4 cz g (kr_ad ad 3 k q1) N LR LT ++ kr_rw N (kr_cK cy ad A)).length = 4 + N := by rw [List.length_append, kr_rw_len]; rfl
    have l2 : ((kr_X4 cz g (kr_ad ad 3 k q1) N LR LT ++ kr_rw N (kr_cK cy ad A)) ++ kr_rw LR (kr_cR cy ad A nR)).length = 4 + N + LR := by rw [List.length_append, kr_rw_len, l1]
    rw [List.set_append_right _ _ (by rw [l2]; omega), l2, Nat.add_sub_cancel_left, kr_rw_set]
    have a1 : kr_rw N (kr_cK cy (kr_ad ad 3 k q1) A') = kr_rw N (kr_cK cy ad A) := kr_rw_cg (fun i _ => kr_cKe (ad := ad) (fun j hj => by rw [hA j (by omega)]))
    have a3 : kr_rw LR (kr_cR cy (kr_ad ad 3 k q1) A' nR) = kr_rw LR (kr_cR cy ad A nR) := kr_rw_cg (fun i _ => kr_cRe (ad := ad) rfl (fun j _ => by rw [hA 7 (by decide)]))
    have a2 : kr_rw LT (kr_cT cy (kr_ad ad 3 k q1) A' (va_up nT k n1)) = kr_rw LT (fun i => if i = k then (q1, .inl (cy, n1, .inl (fun j => if j < n1 then A' 6 (5 * k + j) else 0))) else kr_cT cy ad A nT i) := by
      refine kr_rw_cg (fun i hi => ?_)
      by_cases ei : i = k
      · rw [if_pos ei, ei]
        show (kr_ad ad 3 k q1 3 k, Sum.inl (cy, va_up nT k n1 k, Sum.inl (fun j => if j < va_up nT k n1 k then A' 6 (5 * k + j) else (0 : Int32)))) = _
        rw [kr_ad0, va_up_self]
      · rw [if_neg ei]
        show (kr_ad ad 3 k q1 3 i, Sum.inl (cy, va_up nT k n1 i, Sum.inl (fun j => if j < va_up nT k n1 i then A' 6 (5 * i + j) else (0 : Int32)))) = _
        rw [kr_adO ad ei, va_up_ne _ _ ei]
        exact kr_cTe (ad := ad) (nT' := nT) rfl (hA7 i hi ei)
    show _ = ((kr_X4 cz g (kr_ad ad 3 k q1) N LR LT ++ kr_rw N (kr_cK cy (kr_ad ad 3 k q1) A')) ++ kr_rw LR (kr_cR cy (kr_ad ad 3 k q1) A' nR)) ++ kr_rw LT (kr_cT cy (kr_ad ad 3 k q1) A' (va_up nT k n1))
    rw [a1, a2, a3]
  rw [e3] at h1 h2
  exact kk H1 locs1 h1 h2 h3
end KRSI
