/-! worlds of any length: rows in any number, calls in a part of them, arrays of rows -/
theorem kr_pm {D : va_G} {cl : List vw_C} {ws : va_W} {H : Heap} : va_P D cl ws H ↔ ∀ q ∈ ws, va_at D cl q H := ⟨fun h q hq => by obtain ⟨k, hk⟩ := List.getElem?_of_mem hq; exact h k q hk, fun h k q hk => h q (List.mem_of_getElem? hk)⟩
theorem kr_dm {A : Nat → Prop} {ws : va_W} : va_D A ws ↔ (ws.map (fun q => q.1)).Nodup ∧ ∀ q ∈ ws, A q.1 := by
  constructor
  · intro h
    refine ⟨?_, fun q hq => ?_⟩
    · rw [List.nodup_iff_pairwise_ne, List.pairwise_iff_getElem]
      intro i j hi hj hij e
      rw [List.length_map] at hi hj
      rw [List.getElem_map, List.getElem_map] at e
      have := h.1 i j ws[i] ws[j] (List.getElem?_eq_getElem hi) (List.getElem?_eq_getElem hj) e
      omega
    · obtain ⟨k, hk⟩ := List.getElem?_of_mem hq
      exact h.2 k q hk
  · rintro ⟨h1, h2⟩
    refine ⟨fun i j p q hp hq e => ?_, fun k q hk => h2 q (List.mem_of_getElem? hk)⟩
    have hi : i < (ws.map (fun q => q.1)).length := by rw [List.length_map]; exact (List.getElem?_eq_some_iff.mp hp).1
    refine (List.getElem?_inj hi h1).mp ?_
    rw [List.getElem?_map, List.getElem?_map, hp, hq]
    exact congrArg some e
theorem kr_Pof {D : va_G} {cl : List vw_C} {ws ws' : va_W} {H : Heap} (h : va_P D cl ws H) (hs : ∀ q ∈ ws', q ∈ ws) : va_P D cl ws' H := kr_pm.mpr (fun q hq => kr_pm.mp h q (hs q hq))
theorem kr_Dsub {A : Nat → Prop} {ws ws' : va_W} (h : va_D A ws) (hs : ws'.Sublist ws) : va_D A ws' := kr_dm.mpr ⟨(kr_dm.mp h).1.sublist (hs.map _), fun q hq => (kr_dm.mp h).2 q (hs.subset hq)⟩
theorem kr_Dperm {A : Nat → Prop} {ws ws' : va_W} (h : va_D A ws) (hs : ws.Perm ws') : va_D A ws' := kr_dm.mpr ⟨(kr_dm.mp h).1.perm (hs.map _), fun q hq => (kr_dm.mp h).2 q (hs.mem_iff.mpr hq)⟩
theorem kr_Dadr {A : Nat → Prop} {ws ws' : va_W} (h : va_D A ws) (hs : ws'.map (fun q => q.1) = ws.map (fun q => q.1)) : va_D A ws' := by
  refine kr_dm.mpr ⟨by rw [hs]; exact (kr_dm.mp h).1, fun q hq => ?_⟩
  have h1 : q.1 ∈ ws.map (fun q => q.1) := by rw [← hs]; exact List.mem_map.mpr ⟨q, hq, rfl⟩
  obtain ⟨q0, h2, h3⟩ := List.mem_map.mp h1
  rw [← h3]; exact (kr_dm.mp h).2 q0 h2
theorem kr_Pl {D : va_G} {cl : List vw_C} {a b : va_W} {H : Heap} (h : va_P D cl (a ++ b) H) : va_P D cl a H := kr_Pof h (fun _ hq => List.mem_append_left _ hq)
theorem kr_Pr {D : va_G} {cl : List vw_C} {a b : va_W} {H : Heap} (h : va_P D cl (a ++ b) H) : va_P D cl b H := kr_Pof h (fun _ hq => List.mem_append_right _ hq)
theorem kr_Dl {A : Nat → Prop} {a b : va_W} (h : va_D A (a ++ b)) : va_D A a := kr_Dsub h (List.sublist_append_left a b)
theorem kr_Dr {A : Nat → Prop} {a b : va_W} (h : va_D A (a ++ b)) : va_D A b := kr_Dsub h (List.sublist_append_right a b)
theorem kr_Pc {D : va_G} {cl : List vw_C} {a b : va_W} {H : Heap} (h : va_P D cl (a ++ b) H) : va_P D cl (b ++ a) H := kr_Pof h (fun _ hq => (List.mem_append.mp hq).elim (fun h => List.mem_append_right _ h) (fun h => List.mem_append_left _ h))
theorem kr_Dc {A : Nat → Prop} {a b : va_W} (h : va_D A (a ++ b)) : va_D A (b ++ a) := kr_Dperm h List.perm_append_comm
/-- the last one takes another's place -/
theorem kr_swG {ws : va_W} {x : Nat × va_E} {i : Nat} (hi : i < ws.length) (k : Nat) (q : Nat × va_E) (hk : (ws.set i x)[k]? = some q) : (ws ++ [x])[if k = i then ws.length else k]? = some q := by
  by_cases e : k = i
  · subst e
    rw [List.getElem?_set_self hi] at hk
    rw [if_pos rfl, List.getElem?_append_right (Nat.le_refl _), Nat.sub_self]
    exact hk
  · rw [List.getElem?_set_ne (Ne.symm e)] at hk
    rw [if_neg e, List.getElem?_append_left (List.getElem?_eq_some_iff.mp hk).1]
    exact hk
theorem kr_swP {D : va_G} {cl : List vw_C} {ws : va_W} {x : Nat × va_E} {i : Nat} {H : Heap} (h : va_P D cl (ws ++ [x]) H) (hi : i < ws.length) : va_P D cl (ws.set i x) H := h.by _ (kr_swG hi)
theorem kr_swD {A : Nat → Prop} {ws : va_W} {x : Nat × va_E} {i : Nat} (h : va_D A (ws ++ [x])) (hi : i < ws.length) : va_D A (ws.set i x) := by
  refine h.by _ (kr_swG hi) (fun a b ha hb e => ?_)
  rw [List.length_set] at ha hb
  by_cases h1 : a = i <;> by_cases h2 : b = i <;> simp only [h1, h2, if_true, if_false] at e <;> omega
theorem kr_jn2 {A0 : Nat → Prop} {D : va_G} {cl : List vw_C} {wc wr w1 : va_W} {H H1 : Heap} (hP : va_P D cl (wc ++ wr) H) (hD : va_D A0 (wc ++ wr)) (hk : ∀ q : Nat, q < H.size → ¬ va_A wc H.size q → H1[q]? = H[q]?) (hF : ∀ q, va_A wc H.size q → A0 q) (hP1 : va_P D cl w1 H1) (hD1 : va_D (va_A wc H.size) w1) : va_P D cl (w1 ++ wr) H1 ∧ va_D A0 (w1 ++ wr) := by
  have apart : ∀ (k : Nat) (q : Nat × va_E), wr[k]? = some q → q.1 < H.size ∧ ¬ va_A wc H.size q.1 := by
    intro k q hq
    have h1 : (wc ++ wr)[wc.length + k]? = some q := by rw [List.getElem?_append_right (by omega), Nat.add_sub_cancel_left]; exact hq
    have hl := (hP _ q h1).lt
    refine ⟨hl, fun h => ?_⟩
    rcases h with ⟨k2, e, h⟩ | h
    · have h2 := (List.getElem?_eq_some_iff.mp h).1
      have h3 : (wc ++ wr)[k2]? = some (q.1, e) := by rw [List.getElem?_append_left h2]; exact h
      have := hD.1 _ _ q (q.1, e) h1 h3 rfl
      omega
    · omega
  refine ⟨va_P.app hP1 (fun k q hq => ?_), va_D.app (hD1.weaken (fun k q _ h => hF q.1 h)) (kr_Dr hD) (fun i j x y hx hy hxy => ?_)⟩
  · obtain ⟨g1, g2⟩ := apart k q hq
    exact (kr_Pr hP k q hq).kept (hk q.1 g1 g2)
  · exact (apart j y hy).2 (by rw [← hxy]; exact hD1.2 i x hx)
theorem kr_fr2 {A0 : Nat → Prop} {wc wr : va_W} {H0 H : Heap} {locs : List Loc} (hD : va_D A0 (wc ++ wr)) (hS : va_S A0 H0 H locs) (hA : ∀ q : Nat, H0.size ≤ q → A0 q) : ∀ q, va_A wc H.size q → A0 q := by
  intro q h
  rcases h with ⟨k, e, h⟩ | h
  · exact (kr_Dl hD).2 k (q, e) h
  · exact hA q (Nat.le_trans hS.1 h)
theorem kr_frN {A0 : Nat → Prop} {H0 H : Heap} {locs : List Loc} (hS : va_S A0 H0 H locs) (hA : ∀ q : Nat, H0.size ≤ q → A0 q) : ∀ q, va_A [] H.size q → A0 q := by
  intro q h
  rcases h with ⟨k, e, h⟩ | h
  · exact absurd h (by simp)
  · exact hA q (Nat.le_trans hS.1 h)
theorem kr_nA {sz q : Nat} (h : ¬ sz ≤ q) : ¬ va_A [] sz q := by
  rintro (⟨k, e, h1⟩ | h1)
  · simp at h1
  · exact h h1
theorem kr_nA2 {sz q : Nat} (h : sz ≤ q) : va_A [] sz q := Or.inr h
/-- what a call that only makes cells leaves -/
theorem kr_kpN {D : va_G} {cl : List vw_C} {ws : va_W} {H H1 : Heap} (hP : va_P D cl ws H) (hk : ∀ q : Nat, q < H.size → ¬ va_A [] H.size q → H1[q]? = H[q]?) : va_P D cl ws H1 := hP.kept (fun k q hq => hk q.1 (hP k q hq).lt (kr_nA (Nat.not_le.mpr (hP k q hq).lt)))
theorem kr_jnN {A0 : Nat → Prop} {D : va_G} {cl : List vw_C} {ws w1 : va_W} {H H1 : Heap} (hP : va_P D cl ws H) (hD : va_D A0 ws) (hk : ∀ q : Nat, q < H.size → ¬ va_A [] H.size q → H1[q]? = H[q]?) (hF : ∀ q, va_A [] H.size q → A0 q) (hP1 : va_P D cl w1 H1) (hD1 : va_D (va_A [] H.size) w1) : va_P D cl (ws ++ w1) H1 ∧ va_D A0 (ws ++ w1) := by
  obtain ⟨h1, h2⟩ := kr_jn2 (wc := []) (wr := ws) hP hD hk hF hP1 hD1
  exact ⟨kr_Pc h1, kr_Dc h2⟩
theorem kr_gl {ws t : va_W} {i : Nat} {x : Nat × va_E} (h : ws[i]? = some x) : (ws ++ t)[i]? = some x := by
  rw [List.getElem?_append_left (List.getElem?_eq_some_iff.mp h).1]; exact h
theorem kr_gr {ws t : va_W} {i : Nat} {x : Nat × va_E} (h : t[i]? = some x) : (ws ++ t)[ws.length + i]? = some x := by
  rw [List.getElem?_append_right (by omega), Nat.add_sub_cancel_left]; exact h
/-- the same cell, its content said otherwise -/
theorem kr_cgI {D : va_G} {cl : List vw_C} {a n : Nat} {c : ClassId} {f f' : Nat → Int32} {H : Heap} (h : va_at D cl (a, .inl (c, n, .inl f)) H) (hf : ∀ j, j < n → f j = f' j) : va_at D cl (a, .inl (c, n, .inl f')) H := by
  have e : vp_cell c (n, .inl f') = vp_cell c (n, .inl f) := by
    rw [vp_cell_i, vp_cell_i]
    unfold arrV
    congr 2
    funext j
    exact congrArg Value.int (hf j.val j.isLt).symm
  show H[a]? = some (vp_cell c (n, .inl f'))
  rw [e]; exact h
theorem kr_cgQ {D : va_G} {cl : List vw_C} {a n : Nat} {c : ClassId} {f f' : Nat → Option Nat} {H : Heap} (h : va_at D cl (a, .inl (c, n, .inr (.inr (.inr (.inr f))))) H) (hf : ∀ j, j < n → f j = f' j) : va_at D cl (a, .inl (c, n, .inr (.inr (.inr (.inr f'))))) H := by
  have e : vp_cell c (n, .inr (.inr (.inr (.inr f')))) = vp_cell c (n, .inr (.inr (.inr (.inr f)))) := by
    rw [vp_cell_q, vp_cell_q]
    unfold arrV
    congr 2
    funext j
    exact congrArg va_rf (hf j.val j.isLt).symm
  show H[a]? = some (vp_cell c (n, .inr (.inr (.inr (.inr f')))))
  rw [e]; exact h
theorem kr_Psw {D : va_G} {cl : List vw_C} {ws : va_W} {a : Nat} {e e' : va_E} {H : Heap} (h : va_P D cl (ws ++ [(a, e)]) H) (hc : va_at D cl (a, e) H → va_at D cl (a, e') H) : va_P D cl (ws ++ [(a, e')]) H := by
  refine kr_pm.mpr (fun q hq => ?_)
  rcases List.mem_append.mp hq with h1 | h1
  · exact kr_pm.mp h q (List.mem_append_left _ h1)
  · rw [List.mem_singleton.mp h1]
    exact hc (kr_pm.mp h _ (List.mem_append_right _ (List.mem_singleton.mpr rfl)))
theorem kr_Dsw {A : Nat → Prop} {ws : va_W} {a : Nat} {e e' : va_E} (h : va_D A (ws ++ [(a, e)])) : va_D A (ws ++ [(a, e')]) := kr_Dadr h (by simp)
/-- the last block goes ahead of another -/
theorem kr_mvP {D : va_G} {cl : List vw_C} {a b c d : va_W} {H : Heap} (h : va_P D cl (((a ++ b) ++ c) ++ d) H) : va_P D cl (((a ++ d) ++ b) ++ c) H := kr_Pof h (fun q hq => by
  simp only [List.mem_append] at hq ⊢
  rcases hq with ((h | h) | h) | h
  · exact Or.inl (Or.inl (Or.inl h))
  · exact Or.inr h
  · exact Or.inl (Or.inl (Or.inr h))
  · exact Or.inl (Or.inr h))
theorem kr_mvD {A : Nat → Prop} {a b c d : va_W} (h : va_D A (((a ++ b) ++ c) ++ d)) : va_D A (((a ++ d) ++ b) ++ c) := by
  refine kr_Dperm h ?_
  rw [List.append_assoc (a ++ b), List.append_assoc a, List.append_assoc (a ++ d), List.append_assoc a]
  refine List.Perm.append_left a ?_
  rw [← List.append_assoc, ← List.append_assoc]
  rw [List.append_assoc d]
  exact List.perm_append_comm
theorem kr_mv1P {D : va_G} {cl : List vw_C} {a b d : va_W} {H : Heap} (h : va_P D cl ((a ++ b) ++ d) H) : va_P D cl ((a ++ d) ++ b) H := h.swap
theorem kr_mv1D {A : Nat → Prop} {a b d : va_W} (h : va_D A ((a ++ b) ++ d)) : va_D A ((a ++ d) ++ b) := h.swap
/-- n rows -/
def kr_rw (n : Nat) (F : Nat → Nat × va_E) : va_W := (List.range n).map F
theorem kr_rw_len (n : Nat) (F : Nat → Nat × va_E) : (kr_rw n F).length = n := by unfold kr_rw; rw [List.length_map, List.length_range]
theorem kr_rw_get {n k : Nat} {F : Nat → Nat × va_E} (h : k < n) : (kr_rw n F)[k]? = some (F k) := by
  unfold kr_rw
  rw [List.getElem?_map, List.getElem?_range h]; rfl
theorem kr_rw_s (n : Nat) (F : Nat → Nat × va_E) : kr_rw (n + 1) F = kr_rw n F ++ [F n] := by
  unfold kr_rw
  rw [List.range_succ, List.map_append]; rfl
theorem kr_rw_cg {n : Nat} {F G : Nat → Nat × va_E} (h : ∀ i, i < n → F i = G i) : kr_rw n F = kr_rw n G := by
  unfold kr_rw
  exact List.map_congr_left (fun i hi => h i (List.mem_range.mp hi))
theorem kr_rw_set {n k : Nat} {F : Nat → Nat × va_E} {v : Nat × va_E} : (kr_rw n F).set k v = kr_rw n (fun i => if i = k then v else F i) := by
  apply List.ext_getElem?
  intro j
  by_cases hj : j < n
  · rw [kr_rw_get hj]
    by_cases e : k = j
    · subst e
      rw [List.getElem?_set_self (by rw [kr_rw_len]; exact hj), if_pos rfl]
    · rw [List.getElem?_set_ne e, kr_rw_get hj, if_neg (Ne.symm e)]
  · rw [List.getElem?_eq_none (by rw [List.length_set, kr_rw_len]; omega), List.getElem?_eq_none (by rw [kr_rw_len]; omega)]
theorem kr_rw_mem {n : Nat} {F : Nat → Nat × va_E} {q : Nat × va_E} : q ∈ kr_rw n F ↔ ∃ k, k < n ∧ F k = q := by
  unfold kr_rw
  rw [List.mem_map]
  constructor
  · rintro ⟨k, h1, h2⟩; exact ⟨k, List.mem_range.mp h1, h2⟩
  · rintro ⟨k, h1, h2⟩; exact ⟨k, List.mem_range.mpr h1, h2⟩
/-! arrays of rows of ints -/
def kr_AO (U : State) : Prop := (Cond.arrayOver (.array .int)).before #[] U = true
theorem kr_AO.moved {u U : State} (hvm : u.vm.Alike U.vm) (h : kr_AO u) : kr_AO U := by
  obtain ⟨comp, c, k, h1, h2, h3, h4, h5⟩ := arrayOverA_spec h
  obtain ⟨k', hk', he⟩ := hvm.2.2 _ _ h3
  have hi : (U.vm.classes.findIdx? fun (x : Class) => match x.kind with | .array component _ => component == comp | _ => false) = some c := by
    rw [hvm.findIdx?_eq _ (fun _ => rfl)]
    exact h2
  have hkind : k'.kind = .array comp (.array .int) := by rw [he]; exact h4
  have f1 : U.vm.findClass (FieldType.array .int).toString = some comp := by rw [hvm.findClass]; exact h1
  have f2 : U.vm.findClass ("[" ++ (FieldType.array .int).toString) = some c := by rw [hvm.findClass]; exact h5
  unfold kr_AO Cond.before Cond.holds
  simp only [Cond.value]
  rw [f1, Option.bind_some]
  refine (congrArg (fun o : Option Nat => (o.bind (fun c => (U.vm.classes[c]?).map fun (k : Class) => match k.kind with | .array _ ty => decide (ty = FieldType.array .int) && decide (U.vm.findClass ("[" ++ (FieldType.array .int).toString) = some c) | _ => false) == some true)) hi).trans ?_
  simp [hk', hkind, f2]
theorem kr_zz {D : va_G} {cl : List vw_C} {cy cz : ClassId} {s : State} (hA : kr_AO s) (hK : va_K D cl [(cy, .int), (cz, .array .int)] s) : ∃ kz ky : Class, s.vm.classes[cz]? = some kz ∧ kz.kind = .array cy (.array .int) ∧ s.vm.classes[cy]? = some ky := by
  obtain ⟨comp, c, k, h1, h2, h3, h4, h5⟩ := arrayOverA_spec hA
  have e1 : va_RA s cy .int := (hK.2 0 _ rfl).2
  have e2 : va_RA s cz (.array .int) := (hK.2 1 _ rfl).2
  have f1 : s.vm.findClass (FieldType.array .int).toString = some cy := e1
  have f2 : s.vm.findClass ("[" ++ (FieldType.array .int).toString) = some cz := e2
  obtain rfl : comp = cy := Option.some.inj (h1.symm.trans f1)
  obtain rfl : c = cz := Option.some.inj (h5.symm.trans f2)
  obtain ⟨ky, hky, -⟩ := Vm.findClass_spec h1
  exact ⟨k, ky, h3, h4, hky⟩
theorem kr_asg (vm : Vm) (c : ClassId) : vm.assignable c c = true := by
  show Vm.assignableAux vm (255 + 1) c c = true
  rw [Vm.assignableAux]
  simp
section KRQ
variable {p : Program} {l : Launch} {e : Env} {R : Room} {s : State} {m : MethodId} {args : Array Value} {below : List Frame} {meth : Method} {c : Code} {H : Heap} {locs : List Loc} {cells slots : Nat} {Q : State → Prop} {cc : ByteArray} {pc : Nat} {ls : Array Slot} {rest st0 : List Value} {D : va_G} {cl : List vw_C} {ws : va_W} {cy cz : ClassId} {AA BB : Nat → Prop} {H0 : Heap} {a : Nat}
/-- a row out of an array of rows -/
theorem kr_aldq (hx : p.tables.exec = Jvm.exec) (hb : c.code = cc) (hK : va_K D cl [(cy, .int), (cz, .array .int)] s) (hP : va_P D cl ws H) (q0 : Nat) {n : Nat} {f : Nat → Option Nat} (ha : ws[q0]? = some (a, .inl (cz, n, .inr (.inr (.inr (.inr f)))))) (k : Nat) (hk : k < n) (hn : n < 2 ^ 31) {v : Nat} (hv : f k = some v) (hdg : decode cc pc = .ok (.aaload, 1))
    (kk : W p l e R s m args below meth c H locs cells slots Q (F0 m (pc + 1) ls (.ref v :: rest))) : W p l e R s m args below meth c H locs cells slots Q (F0 m pc ls (.int (nI k) :: .ref a :: rest)) := by
  have hin : vp_in (nI k) n := vp_in_nI hk hn
  have hlt : (nI k).toNatClampNeg < n := Nat.not_le.mp fun q => hin (Or.inr q)
  refine W.aald (v := .ref v) (ty := .array .int) hx hb (hP q0 _ ha) ((hK.2 1 _ rfl).1 n (fun j => va_rf (f j))) rfl (fun q => by cases q) (by show ¬ ((nI k) < 0 ∨ (arrV _ _ _).slots.size ≤ _); rw [arrV_size]; exact hin) (by show (arrV _ _ _).slots[_]? = _; rw [arrV_read _ _ hlt, nI_clamp (by omega), hv]; rfl) rfl rfl hdg kk
/-- a row into an array of rows -/
theorem kr_astq (hx : p.tables.exec = Jvm.exec) (hb : c.code = cc) (hZ : kr_AO s) (hK : va_K D cl [(cy, .int), (cz, .array .int)] s) (hP : va_P D cl ws H) (hD : va_D BB ws) (hS : va_S AA H0 H locs) (haA : AA a) (q0 q1 : Nat) {n v n1 : Nat} {f : Nat → Option Nat} {f1 : Nat → Int32} (ha : ws[q0]? = some (a, .inl (cz, n, .inr (.inr (.inr (.inr f)))))) (hv : ws[q1]? = some (v, .inl (cy, n1, .inl f1))) (k : Nat) (hk : k < n) (hn : n < 2 ^ 31) (hdg : decode cc pc = .ok (.aastore, 1))
    (kk : ∀ (H1 : Heap) (locs1 : List Loc), va_P D cl (ws.set q0 (a, .inl (cz, n, .inr (.inr (.inr (.inr (va_up f k (some v)))))))) H1 → va_D BB (ws.set q0 (a, .inl (cz, n, .inr (.inr (.inr (.inr (va_up f k (some v)))))))) → va_S AA H0 H1 locs1 → W p l e R s m args below meth c H1 locs1 cells slots Q (F0 m (pc + 1) ls rest)) : W p l e R s m args below meth c H locs cells slots Q (F0 m pc ls (.ref v :: .int (nI k) :: .ref a :: rest)) := by
  obtain ⟨kz, ky, z1, z2, z3⟩ := kr_zz hZ hK
  have hcl : (nI k).toNatClampNeg = k := nI_clamp (by omega)
  refine W.aast hx hb (hP q0 _ ha) (fun q h => by cases h) (fun h => by cases h) z1 z2 rfl z3 ⟨nI_pos (by omega), by show _ < (arrV _ _ _).slots.size; rw [arrV_size, hcl]; exact hk⟩ (hP q1 _ hv) (fun q h => by cases h) z3 (kr_asg _ _) rfl rfl hdg fun H1 e z oq => ?_
  refine kk H1 _ (hP.set hD ha ?_ oq) (hD.set ha) (hS.put z oq haA)
  show H1[a]? = some (vp_cell _ _)
  rw [e, hcl]
  rw [vp_cell_q, vp_cell_q, arrV_store]
  congr 2
  funext q
  by_cases hq : q = k
  · subst hq
    simp [updV, va_up, va_rf]
  · simp [updV, va_up, hq]
/-- an int into a row, of cells that may be another's -/
theorem kr_astF (hx : p.tables.exec = Jvm.exec) (hb : c.code = cc) {tys : List (ClassId × FieldType)} (hK : va_K D cl ((cy, .int) :: tys) s) (hP : va_P D cl ws H) (hD : va_D BB ws) (hS : va_S AA H0 H locs) (haA : AA a) (q0 : Nat) {n : Nat} {f : Nat → Int32} (ha : ws[q0]? = some (a, .inl (cy, n, .inl f))) (k : Nat) {x : Int32} (hk : k < n) (hn : n < 2 ^ 31) (hdg : decode cc pc = .ok (.iastore, 1))
    (kk : ∀ (H1 : Heap) (locs1 : List Loc), va_P D cl (ws.set q0 (a, .inl (cy, n, .inl (upd f k x)))) H1 → va_D BB (ws.set q0 (a, .inl (cy, n, .inl (upd f k x)))) → va_S AA H0 H1 locs1 → W p l e R s m args below meth c H1 locs1 cells slots Q (F0 m (pc + 1) ls rest)) : W p l e R s m args below meth c H locs cells slots Q (F0 m pc ls (.int x :: .int (nI k) :: .ref a :: rest)) := by
  have hcl : (nI k).toNatClampNeg = k := nI_clamp (by omega)
  have hin : vp_in (nI k) n := vp_in_nI hk hn
  refine W.iast hx hb (hP q0 _ ha) ((hK.2 0 _ rfl).1 n (fun j => .int (f j))) (fun q => by cases q) (by show ¬ ((nI k) < 0 ∨ (arrV _ _ _).slots.size ≤ _); rw [arrV_size]; exact hin) rfl rfl hdg fun H1 e z oq => ?_
  refine kk H1 _ (hP.set hD ha ?_ oq) (hD.set ha) (hS.put z oq haA)
  show H1[a]? = some (vp_cell _ _)
  rw [e, hcl]
  rw [vp_cell_i, vp_cell_i, arrV_store]
  congr 2
  funext q
  by_cases hq : q = k
  · subst hq
    simp [updV, upd]
  · simp [updV, upd, hq]
/-- a new row; the world's other cells may be another's -/
theorem kr_newF (hx : p.tables.exec = Jvm.exec) (hb : c.code = cc) (hts : ∀ w ∈ kr_all, w.before args s = true) {tys : List (ClassId × FieldType)} (hK : va_K D cl ((cy, .int) :: tys) s) (hP : va_P D cl ws H) (hD : va_D BB ws) (hB : ∀ q : Nat, H0.size ≤ q → BB q) (hS : va_S AA H0 H locs) {n : Int32} (N' : Nat) (hn : ¬ n < 0) (hN : n.toNatClampNeg = N') (hb2 : N' ≤ 1000) (hcells : cells + 1 ≤ R.cells) (hslots : slots + N' ≤ R.slots) (hdg : decode cc pc = .ok (.newarray .int, 2))
    (kk : ∀ (q : Nat) (H1 : Heap), H0.size ≤ q → va_P D cl (ws ++ [(q, .inl (cy, N', .inl (fun _ => 0)))]) H1 → va_D BB (ws ++ [(q, .inl (cy, N', .inl (fun _ => 0)))]) → va_S AA H0 H1 locs → W p l e R s m args below meth c H1 locs (cells + 1) (slots + N') Q (F0 m (pc + 2) ls (.ref q :: rest))) : W p l e R s m args below meth c H locs cells slots Q (F0 m pc ls (.int n :: rest)) := by
  refine va_newaK (atype := .int) hx hb (hts _ kq_73) rfl hdg rfl hn hN (show N' * 4 ≤ 536870912 by omega) hcells hslots rfl fun H1 cA e1 z1 o1 hAr hNm => ?_
  have f1 : va_RA s cy .int := (hK.2 0 _ rfl).2
  obtain rfl : cA = cy := Option.some.inj (hNm.symm.trans f1)
  have hk : ∀ (k : Nat) (x : Nat × va_E), ws[k]? = some x → H1[x.1]? = H[x.1]? := fun k x hx => o1 x.1 ((hP k x hx).lt)
  refine kk H.size H1 hS.1 ((hP.kept hk).app (fun k x hx => ?_)) (hD.push hP rfl (hB _ hS.1)) ⟨Nat.le_trans hS.1 (by omega), fun x h1 h2 => (o1 x (Nat.lt_of_lt_of_le h1 hS.1)).trans (hS.2.1 x h1 h2), hS.2.2⟩
  have hz : k < 1 := (List.getElem?_eq_some_iff.mp hx).1
  rw [show k = 0 by omega] at hx
  cases hx
  show H1[H.size]? = some (vp_cell _ _)
  exact e1
/-- a new array of rows -/
theorem kr_newQ (hx : p.tables.exec = Jvm.exec) (hb : c.code = cc) {own : String} {index : Nat} (hown : s.vm.findClass own = some m.cls) (hclink : (Cond.classLink own index "[I").before args s = true) (hZ : kr_AO s) (hP : va_P D cl ws H) (hD : va_D BB ws) (hB : ∀ q : Nat, H0.size ≤ q → BB q) (hS : va_S AA H0 H locs) {n : Int32} (N' : Nat) (hn : ¬ n < 0) (hN : n.toNatClampNeg = N') (hb2 : N' ≤ 1000) (hcells : cells + 1 ≤ R.cells) (hslots : slots + N' ≤ R.slots) (hdg : decode cc pc = .ok (.anewarray index, 3))
    (kk : ∀ (q : Nat) (cA : ClassId) (H1 : Heap), H0.size ≤ q → ArrOfT s cA (.array .int) ∧ va_RA s cA (.array .int) → va_P D cl (ws ++ [(q, .inl (cA, N', .inr (.inr (.inr (.inr (fun _ => none))))))]) H1 → va_D BB (ws ++ [(q, .inl (cA, N', .inr (.inr (.inr (.inr (fun _ => none))))))]) → va_S AA H0 H1 locs → W p l e R s m args below meth c H1 locs (cells + 1) (slots + N') Q (F0 m (pc + 3) ls (.ref q :: rest))) : W p l e R s m args below meth c H locs cells slots Q (F0 m pc ls (.int n :: rest)) := by
  subst hN
  refine W.anewA (t := .int) hx hb hown hclink hZ rfl hdg rfl hn (by omega) hcells hslots fun cA kA comp f1 f2 f3 f4 => ?_
  generalize hH1 : H.push ({ cls := cA, slots := Array.replicate n.toNatClampNeg .null, vm := .none } : Cell) = H1
  have z1 : H1.size = H.size + 1 := by rw [← hH1, Array.size_push]
  have e1 : H1[H.size]? = some (arrV cA n.toNatClampNeg (fun _ => .null)) := by rw [← hH1, Array.getElem?_push_size, ← arrV_new]
  have o1 : ∀ q : Nat, q < H.size → H1[q]? = H[q]? := fun q hq => by rw [← hH1, Array.getElem?_push, if_neg (Nat.ne_of_lt hq)]
  have hAr : ArrOfT s cA (.array .int) := fun N z => ⟨(fun k h => by cases h), kA, f2, comp, f3⟩
  have hk : ∀ (k : Nat) (x : Nat × va_E), ws[k]? = some x → H1[x.1]? = H[x.1]? := fun k x hx => o1 x.1 ((hP k x hx).lt)
  refine kk H.size cA H1 hS.1 ⟨hAr, f1⟩ ((hP.kept hk).app (fun k x hx => ?_)) (hD.push hP rfl (hB _ hS.1)) ⟨Nat.le_trans hS.1 (by omega), fun x h1 h2 => (o1 x (Nat.lt_of_lt_of_le h1 hS.1)).trans (hS.2.1 x h1 h2), hS.2.2⟩
  have hz : k < 1 := (List.getElem?_eq_some_iff.mp hx).1
  rw [show k = 0 by omega] at hx
  cases hx
  show H1[H.size]? = some (vp_cell _ _)
  rw [vp_cell_q]
  exact e1
theorem kr_Kapp {tys : List (ClassId × FieldType)} {ty : FieldType} {cA : ClassId} (hK : va_K D cl tys s) (h : ArrOfT s cA ty ∧ va_RA s cA ty) : va_K D cl (tys ++ [(cA, ty)]) s := by
  refine hK.app ⟨hK.1, fun k x hx => ?_⟩
  have hz : k < 1 := (List.getElem?_eq_some_iff.mp hx).1
  rw [show k = 0 by omega] at hx
  cases hx
  exact h
theorem kr_Ksame {tys : List (ClassId × FieldType)} {ty : FieldType} {cA cB : ClassId} (h1 : va_RA s cA (.array .int)) (h2 : va_RA s cB (.array .int)) : cA = cB := Option.some.inj (Eq.trans (Eq.symm (show s.vm.findClass _ = some cA from h1)) h2)
/-- a call in a part of the world -/
theorem kr_qI {V : Type} {post : Int32 → V → Prop} {B : V → State → Prop} {w1 : V → va_W} {wc wr : va_W} {mc ms : Nat} {av : Array Value} (hr : va_Run p l e R s m args below meth c H locs cells slots mc ms (F0 m pc ls st0) rest (va_Qi post B (va_A wc H.size) av) (va_A wc H.size)) (hB : ∀ u t, B u t → va_P D cl (w1 u) t.heap ∧ va_D (va_A wc H.size) (w1 u)) (hP : va_P D cl (wc ++ wr) H) (hD : va_D AA (wc ++ wr)) (hS : va_S AA H0 H locs) (hA : ∀ q : Nat, H0.size ≤ q → AA q)
    (kk : ∀ (r : Int32) (u : V) (H1 : Heap) (locs1 : List Loc), post r u → va_P D cl (w1 u ++ wr) H1 → va_D AA (w1 u ++ wr) → va_S AA H0 H1 locs1 → W p l e R s m args below meth c H1 locs1 (cells + mc) (slots + ms) Q (F0 m (pc + 3) ls (.int r :: rest))) : W p l e R s m args below meth c H locs cells slots Q (F0 m pc ls st0) := by
  have hF := kr_fr2 hD hS hA
  refine va_calli hr hS (fun q _ h => hF q h) hF (fun r u t H1 locs1 ht hvm hp hb hz hk hS1 => ?_)
  obtain ⟨hP1, hD1⟩ := hB u t hb
  rw [ht] at hP1
  obtain ⟨hP2, hD2⟩ := kr_jn2 hP hD hk hF hP1 hD1
  exact kk r u H1 locs1 hp hP2 hD2 hS1
theorem kr_qV {V : Type} {post : V → Prop} {B : V → State → Prop} {w1 : V → va_W} {wc wr : va_W} {mc ms : Nat} {av : Array Value} (hr : va_Run p l e R s m args below meth c H locs cells slots mc ms (F0 m pc ls st0) rest (va_Qv post B (va_A wc H.size) av) (va_A wc H.size)) (hB : ∀ u t, B u t → va_P D cl (w1 u) t.heap ∧ va_D (va_A wc H.size) (w1 u)) (hP : va_P D cl (wc ++ wr) H) (hD : va_D AA (wc ++ wr)) (hS : va_S AA H0 H locs) (hA : ∀ q : Nat, H0.size ≤ q → AA q)
    (kk : ∀ (u : V) (t : State) (H1 : Heap) (locs1 : List Loc), t.heap = H1 → s.vm.Alike t.vm → B u t → post u → va_P D cl (w1 u ++ wr) H1 → va_D AA (w1 u ++ wr) → va_S AA H0 H1 locs1 → W p l e R s m args below meth c H1 locs1 (cells + mc) (slots + ms) Q (F0 m (pc + 3) ls rest)) : W p l e R s m args below meth c H locs cells slots Q (F0 m pc ls st0) := by
  have hF := kr_fr2 hD hS hA
  refine va_callv hr hS (fun q _ h => hF q h) hF (fun u t H1 locs1 ht hvm hp hb hz hk hS1 => ?_)
  obtain ⟨hP1, hD1⟩ := hB u t hb
  rw [ht] at hP1
  obtain ⟨hP2, hD2⟩ := kr_jn2 hP hD hk hF hP1 hD1
  exact kk u t H1 locs1 ht hvm hb hp hP2 hD2 hS1
/-- a call that makes a cell and hands it back -/
theorem kr_qR {V : Type} {post : V → Prop} {B : V → Nat → State → Prop} {w1 : V → Nat → va_W} {mc ms : Nat} {av : Array Value} (hr : va_Run p l e R s m args below meth c H locs cells slots mc ms (F0 m pc ls st0) rest (va_Qr post B (va_A [] H.size) av) (va_A [] H.size)) (hB : ∀ u q t, B u q t → va_P D cl (w1 u q) t.heap ∧ va_D (va_A [] H.size) (w1 u q)) (hP : va_P D cl ws H) (hD : va_D BB ws) (hBB : ∀ q : Nat, H0.size ≤ q → BB q) (hS : va_S AA H0 H locs) (hA : ∀ q : Nat, H0.size ≤ q → AA q)
    (kk : ∀ (u : V) (q : Nat) (H1 : Heap) (locs1 : List Loc), post u → (∀ b : Nat, b < H.size → H1[b]? = H[b]?) → va_P D cl (ws ++ w1 u q) H1 → va_D BB (ws ++ w1 u q) → va_S AA H0 H1 locs1 → W p l e R s m args below meth c H1 locs1 (cells + mc) (slots + ms) Q (F0 m (pc + 3) ls (.ref q :: rest))) : W p l e R s m args below meth c H locs cells slots Q (F0 m pc ls st0) := by
  have hF : ∀ q, va_A [] H.size q → AA q := kr_frN hS hA
  have hF2 : ∀ q, va_A [] H.size q → BB q := fun q h => by
    rcases h with ⟨k, e, h⟩ | h
    · exact absurd h (by simp)
    · exact hBB q (Nat.le_trans hS.1 h)
  refine va_callr hr hS (fun q _ h => hF q h) hF (fun u q t H1 locs1 ht hvm hp hb hz hk hS1 => ?_)
  obtain ⟨hP1, hD1⟩ := hB u q t hb
  rw [ht] at hP1
  obtain ⟨hP2, hD2⟩ := kr_jnN hP hD hk hF2 hP1 hD1
  exact kk u q H1 locs1 hp (fun b h => hk b h (kr_nA (Nat.not_le.mpr h))) hP2 hD2 hS1
/-- a call that makes cells that nobody keeps -/
theorem kr_qN {post : Int32 → Unit → Prop} {B : Unit → State → Prop} {mc ms : Nat} {av : Array Value} (hr : va_Run p l e R s m args below meth c H locs cells slots mc ms (F0 m pc ls st0) rest (va_Qi post B (va_A [] H.size) av) (va_A [] H.size)) (hP : va_P D cl ws H) (hS : va_S AA H0 H locs) (hA : ∀ q : Nat, H0.size ≤ q → AA q)
    (kk : ∀ (r : Int32) (H1 : Heap) (locs1 : List Loc), post r () → (∀ b : Nat, b < H.size → H1[b]? = H[b]?) → va_P D cl ws H1 → va_S AA H0 H1 locs1 → W p l e R s m args below meth c H1 locs1 (cells + mc) (slots + ms) Q (F0 m (pc + 3) ls (.int r :: rest))) : W p l e R s m args below meth c H locs cells slots Q (F0 m pc ls st0) := by
  have hF : ∀ q, va_A [] H.size q → AA q := kr_frN hS hA
  refine va_calli hr hS (fun q _ h => hF q h) hF (fun r u t H1 locs1 ht hvm hp hb hz hk hS1 => ?_)
  exact kk r H1 locs1 hp (fun b h => hk b h (kr_nA (Nat.not_le.mpr h))) (kr_kpN hP hk) hS1
end KRQ
