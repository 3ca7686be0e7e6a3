/-! a longer array of rows, put into the catalogue by hand -/
theorem kr_mvKP {D : va_G} {cl : List vw_C} {w X a b c d : va_W} {H : Heap} (h : va_P D cl ((w ++ (((X ++ a) ++ b) ++ c)) ++ d) H) : va_P D cl (w ++ (((X ++ (a ++ d)) ++ b) ++ c)) H := kr_Pof h (fun q hq => by
  simp only [List.mem_append] at hq ⊢
  rcases hq with h | ((h | (h | h)) | h) | h
  · exact Or.inl (Or.inl h)
  · exact Or.inl (Or.inr (Or.inl (Or.inl (Or.inl h))))
  · exact Or.inl (Or.inr (Or.inl (Or.inl (Or.inr h))))
  · exact Or.inr h
  · exact Or.inl (Or.inr (Or.inl (Or.inr h)))
  · exact Or.inl (Or.inr (Or.inr h)))
theorem kr_mvKD {A : Nat → Prop} {w X a b c d : va_W} (h : va_D A ((w ++ (((X ++ a) ++ b) ++ c)) ++ d)) : va_D A (w ++ (((X ++ (a ++ d)) ++ b) ++ c)) := by
  refine kr_Dperm h ?_
  simp only [List.append_assoc]
  refine List.Perm.append_left w (List.Perm.append_left X (List.Perm.append_left a ?_))
  rw [← List.append_assoc b]
  exact List.perm_append_comm
theorem kr_mvRP {D : va_G} {cl : List vw_C} {w X a b c d : va_W} {H : Heap} (h : va_P D cl ((w ++ (((X ++ a) ++ b) ++ c)) ++ d) H) : va_P D cl (w ++ (((X ++ a) ++ (b ++ d)) ++ c)) H := kr_Pof h (fun q hq => by
  simp only [List.mem_append] at hq ⊢
  rcases hq with h | ((h | h) | (h | h)) | h
  · exact Or.inl (Or.inl h)
  · exact Or.inl (Or.inr (Or.inl (Or.inl (Or.inl h))))
  · exact Or.inl (Or.inr (Or.inl (Or.inl (Or.inr h))))
  · exact Or.inl (Or.inr (Or.inl (Or.inr h)))
  · exact Or.inr h
  · exact Or.inl (Or.inr (Or.inr h)))
theorem kr_mvRD {A : Nat → Prop} {w X a b c d : va_W} (h : va_D A ((w ++ (((X ++ a) ++ b) ++ c)) ++ d)) : va_D A (w ++ (((X ++ a) ++ (b ++ d)) ++ c)) := by
  refine kr_Dperm h ?_
  simp only [List.append_assoc]
  refine List.Perm.append_left w (List.Perm.append_left X (List.Perm.append_left a (List.Perm.append_left b ?_)))
  exact List.perm_append_comm
theorem kr_mvTP {D : va_G} {cl : List vw_C} {w X a b c d : va_W} {H : Heap} (h : va_P D cl ((w ++ (((X ++ a) ++ b) ++ c)) ++ d) H) : va_P D cl (w ++ (((X ++ a) ++ b) ++ (c ++ d))) H := by
  rw [List.append_assoc w, List.append_assoc ((X ++ a) ++ b)] at h; exact h
theorem kr_mvTD {A : Nat → Prop} {w X a b c d : va_W} (h : va_D A ((w ++ (((X ++ a) ++ b) ++ c)) ++ d)) : va_D A (w ++ (((X ++ a) ++ b) ++ (c ++ d))) := by
  rw [List.append_assoc w, List.append_assoc ((X ++ a) ++ b)] at h; exact h
section KRSN
variable {p : Program} {l : Launch} {e : Env} {R : Room} {s : State} {m : MethodId} {args : Array Value} {below : List Frame} {meth : Method} {c : Code} {H : Heap} {locs : List Loc} {cells slots : Nat} {Q : State → Prop} {cc : ByteArray} {pc : Nat} {ls : Array Slot} {rest st0 : List Value} {D : va_G} {w : va_W} {cy cz : ClassId} {AA BB : Nat → Prop} {H0 : Heap} {g : Nat} {ad : Nat → Nat → Nat} {N LR LT : Nat} {A : Nat → Nat → Int32} {nR nT : Nat → Nat}
set_option maxHeartbeats 1000000 in
/-- knots, one row longer -/
theorem kr_wnK (hx : p.tables.exec = Jvm.exec) (hb : c.code = cc) (hts : ∀ w ∈ kr_all, w.before args s = true) {own : String} {index : Nat} (hown : s.vm.findClass own = some m.cls) (hlink : (Cond.fieldLink own index "KnotRackLaw$Sim" "knots" "[[I").before args s = true) (hK : va_K D vwCl [(cy, .int), (cz, .array .int)] s) {q1 o n1 : Nat} {f1 : Nat → Int32} {fq : Nat → Option Nat} (hP : va_P D vwCl (((w ++ kr_SG cy cz g ad N LR LT A nR nT) ++ [(q1, .inl (cy, 5, .inl f1))]) ++ [(o, .inl (cz, N + 1, .inr (.inr (.inr (.inr fq)))))]) H) (hD : va_D AA (((w ++ kr_SG cy cz g ad N LR LT A nR nT) ++ [(q1, .inl (cy, 5, .inl f1))]) ++ [(o, .inl (cz, N + 1, .inr (.inr (.inr (.inr fq)))))])) (hS : va_S AA H0 H locs) (hq : ∀ k, k < N → fq k = some (ad 1 k)) (hq1 : fq N = some q1) (A' : Nat → Nat → Int32) (hA1 : ∀ j, j < 5 → f1 j = A' j N) (hA2 : ∀ i, i < N → ∀ j, j < 5 → A' j i = A j i) (hA3 : ∀ i, i < LR → ∀ j, j < nR i → A' 7 (5 * i + j) = A 7 (5 * i + j)) (hA4 : ∀ i, i < LT → ∀ j, j < nT i → A' 6 (5 * i + j) = A 6 (5 * i + j)) (hdg : decode cc pc = .ok (.putfield index, 3))
    (kk : ∀ (H1 : Heap) (locs1 : List Loc), va_P D vwCl (w ++ kr_SG cy cz g (kr_ad (kr_ad ad 1 N q1) 0 0 o) (N + 1) LR LT A' nR nT) H1 → va_D AA (w ++ kr_SG cy cz g (kr_ad (kr_ad ad 1 N q1) 0 0 o) (N + 1) LR LT A' nR nT) → va_S AA H0 H1 locs1 → W p l e R s m args below meth c H1 locs1 cells slots Q (F0 m (pc + 3) ls rest)) : W p l e R s m args below meth c H locs cells slots Q (F0 m pc ls (.ref o :: .ref g :: rest)) := by
  have hg : (((w ++ kr_SG cy cz g ad N LR LT A nR nT) ++ [(q1, .inl (cy, 5, .inl f1))]) ++ [(o, .inl (cz, N + 1, .inr (.inr (.inr (.inr fq)))))])[w.length + 0]? = some (g, .inr (1, [.ref (ad 0 0), .ref (ad 0 1), .ref (ad 0 2)])) := kr_gl (kr_gl (kr_gr (ws := w) (i := 0) rfl))
  refine va_put (ci := 1) (v := .ref o) (ty := .array (.array .int)) (C := RX1) (T := TX1) (N := 3) hx hb hts kr_wsX1 tyX1 tyX1_ok nmX1 hown hK hP hD hS (w.length + 0) hg rfl 0 (by decide) hlink (fun _ h9 => h9) rfl (by decide +kernel) rfl rfl (Nat.le_of_ble_eq_true rfl) hdg (fun H1 locs1 h1 h2 h3 => ?_)
  have lw : w.length + 0 < (w ++ kr_SG cy cz g ad N LR LT A nR nT).length := by rw [List.length_append, kr_SGlen]; omega
  rw [List.set_append_left _ _ (by rw [List.length_append]; omega), List.set_append_left _ _ lw, kr_ljset, kr_sX (show 0 < (kr_X4 cz g ad N LR LT).length from Nat.le_of_ble_eq_true rfl)] at h1 h2
  have h1 : va_P D vwCl (((w ++ ((([(g, .inr (1, [.ref o, .ref (ad 0 1), .ref (ad 0 2)])), kr_cO cz ad 0 N, kr_cO cz ad 1 LR, kr_cO cz ad 2 LT] ++ kr_rw N (kr_cK cy ad A)) ++ kr_rw LR (kr_cR cy ad A nR)) ++ kr_rw LT (kr_cT cy ad A nT))) ++ [(q1, .inl (cy, 5, .inl f1))]) ++ [(o, .inl (cz, N + 1, .inr (.inr (.inr (.inr fq)))))]) H1 := h1
  have h2 : va_D AA (((w ++ ((([(g, .inr (1, [.ref o, .ref (ad 0 1), .ref (ad 0 2)])), kr_cO cz ad 0 N, kr_cO cz ad 1 LR, kr_cO cz ad 2 LT] ++ kr_rw N (kr_cK cy ad A)) ++ kr_rw LR (kr_cR cy ad A nR)) ++ kr_rw LT (kr_cT cy ad A nT))) ++ [(q1, .inl (cy, 5, .inl f1))]) ++ [(o, .inl (cz, N + 1, .inr (.inr (.inr (.inr fq)))))]) := h2
  have hcg : ∀ k, k < N + 1 → fq k = some ((kr_ad (kr_ad ad 1 N q1) 0 0 o) 1 k) := fun k hk => by
    by_cases e : k = N
    · rw [e, hq1, kr_adN _ (by decide), kr_ad0]
    · rw [hq k (by omega), kr_adN _ (by decide), kr_adO _ e]
  have h1 := kr_Psw h1 (fun h => kr_cgQ h hcg)
  have h2 := kr_Dsw (e' := .inl (cz, N + 1, .inr (.inr (.inr (.inr (fun k => some ((kr_ad (kr_ad ad 1 N q1) 0 0 o) 1 k))))))) h2
  have l2 : w.length + 1 < (w ++ ((([(g, .inr (1, [.ref o, .ref (ad 0 1), .ref (ad 0 2)])), kr_cO cz ad 0 N, kr_cO cz ad 1 LR, kr_cO cz ad 2 LT] ++ kr_rw N (kr_cK cy ad A)) ++ kr_rw LR (kr_cR cy ad A nR)) ++ kr_rw LT (kr_cT cy ad A nT))).length := by
    rw [List.length_append, List.length_append, List.length_append, List.length_append]
    show w.length + 1 < w.length + (4 + _ + _ + _); omega
  have l3 : w.length + 1 < ((w ++ ((([(g, .inr (1, [.ref o, .ref (ad 0 1), .ref (ad 0 2)])), kr_cO cz ad 0 N, kr_cO cz ad 1 LR, kr_cO cz ad 2 LT] ++ kr_rw N (kr_cK cy ad A)) ++ kr_rw LR (kr_cR cy ad A nR)) ++ kr_rw LT (kr_cT cy ad A nT))) ++ [(q1, .inl (cy, 5, .inl f1))] : va_W).length := by rw [List.length_append]; omega
  have h1 := kr_swP h1 l3
  have h2 := kr_swD h2 l3
  rw [List.set_append_left _ _ l2, kr_ljset, kr_sX (show 1 < ([(g, .inr (1, [.ref o, .ref (ad 0 1), .ref (ad 0 2)])), kr_cO cz ad 0 N, kr_cO cz ad 1 LR, kr_cO cz ad 2 LT] : va_W).length from Nat.le_of_ble_eq_true rfl)] at h1 h2
  have h1 : va_P D vwCl ((w ++ ((([(g, .inr (1, [.ref o, .ref (ad 0 1), .ref (ad 0 2)])), (o, .inl (cz, N + 1, .inr (.inr (.inr (.inr (fun k => some ((kr_ad (kr_ad ad 1 N q1) 0 0 o) 1 k))))))), kr_cO cz ad 1 LR, kr_cO cz ad 2 LT] ++ kr_rw N (kr_cK cy ad A)) ++ kr_rw LR (kr_cR cy ad A nR)) ++ kr_rw LT (kr_cT cy ad A nT))) ++ [(q1, .inl (cy, 5, .inl f1))]) H1 := h1
  have h2 : va_D AA ((w ++ ((([(g, .inr (1, [.ref o, .ref (ad 0 1), .ref (ad 0 2)])), (o, .inl (cz, N + 1, .inr (.inr (.inr (.inr (fun k => some ((kr_ad (kr_ad ad 1 N q1) 0 0 o) 1 k))))))), kr_cO cz ad 1 LR, kr_cO cz ad 2 LT] ++ kr_rw N (kr_cK cy ad A)) ++ kr_rw LR (kr_cR cy ad A nR)) ++ kr_rw LT (kr_cT cy ad A nT))) ++ [(q1, .inl (cy, 5, .inl f1))]) := h2
  have h1 := kr_Psw h1 (fun h => kr_cgI h (f' := fun j => if j < 5 then A' j N else 0) (fun j hj => by rw [hA1 j hj, if_pos hj]))
  have h2 := kr_Dsw (e' := .inl (cy, 5, .inl (fun j => if j < 5 then A' j N else 0))) h2
  have h1 := kr_mvKP h1
  have h2 := kr_mvKD h2
  have aK : kr_rw N (kr_cK cy ad A) ++ [(q1, .inl (cy, 5, .inl (fun j => if j < 5 then A' j N else 0)))] = kr_rw (N + 1) (kr_cK cy (kr_ad (kr_ad ad 1 N q1) 0 0 o) A') := by
    rw [kr_rw_s, show kr_rw N (kr_cK cy (kr_ad (kr_ad ad 1 N q1) 0 0 o) A') = kr_rw N (kr_cK cy ad A) from kr_rw_cg (fun i hi => by
      have e1 : (kr_ad (kr_ad ad 1 N q1) 0 0 o) 1 i = ad 1 i := by rw [kr_adN _ (by decide), kr_adO _ (by omega)]
      refine Eq.trans ?_ (kr_cKe (ad := ad) (hA2 i hi))
      show ((kr_ad (kr_ad ad 1 N q1) 0 0 o) 1 i, _) = (ad 1 i, _)
      rw [e1])]
    congr 1
    show _ = [((kr_ad (kr_ad ad 1 N q1) 0 0 o) 1 N, Sum.inl (cy, 5, Sum.inl (fun j => if j < 5 then A' j N else (0 : Int32))))]
    rw [kr_adN _ (by decide), kr_ad0]
  have aR : kr_rw LR (kr_cR cy (kr_ad (kr_ad ad 1 N q1) 0 0 o) A' nR) = kr_rw LR (kr_cR cy ad A nR) := kr_rw_cg (fun i hi => by
    have e1 : (kr_ad (kr_ad ad 1 N q1) 0 0 o) 2 i = ad 2 i := by rw [kr_adN _ (by decide), kr_adN _ (by decide)]
    refine Eq.trans ?_ (kr_cRe (ad := ad) rfl (hA3 i hi))
    show ((kr_ad (kr_ad ad 1 N q1) 0 0 o) 2 i, _) = (ad 2 i, _)
    rw [e1])
  have aT : kr_rw LT (kr_cT cy (kr_ad (kr_ad ad 1 N q1) 0 0 o) A' nT) = kr_rw LT (kr_cT cy ad A nT) := kr_rw_cg (fun i hi => by
    have e1 : (kr_ad (kr_ad ad 1 N q1) 0 0 o) 3 i = ad 3 i := by rw [kr_adN _ (by decide), kr_adN _ (by decide)]
    refine Eq.trans ?_ (kr_cTe (ad := ad) rfl (hA4 i hi))
    show ((kr_ad (kr_ad ad 1 N q1) 0 0 o) 3 i, _) = (ad 3 i, _)
    rw [e1])
  have aX : ([(g, .inr (1, [.ref o, .ref (ad 0 1), .ref (ad 0 2)])), (o, .inl (cz, N + 1, .inr (.inr (.inr (.inr (fun k => some ((kr_ad (kr_ad ad 1 N q1) 0 0 o) 1 k))))))), kr_cO cz ad 1 LR, kr_cO cz ad 2 LT] : va_W) = kr_X4 cz g (kr_ad (kr_ad ad 1 N q1) 0 0 o) (N + 1) LR LT := by
    show _ = [(g, Sum.inr (1, [Value.ref ((kr_ad (kr_ad ad 1 N q1) 0 0 o) 0 0), Value.ref ((kr_ad (kr_ad ad 1 N q1) 0 0 o) 0 1), Value.ref ((kr_ad (kr_ad ad 1 N q1) 0 0 o) 0 2)])), kr_cO cz (kr_ad (kr_ad ad 1 N q1) 0 0 o) 0 _, kr_cO cz (kr_ad (kr_ad ad 1 N q1) 0 0 o) 1 _, kr_cO cz (kr_ad (kr_ad ad 1 N q1) 0 0 o) 2 _]
    have z : ∀ i, i ≠ 0 → (kr_ad (kr_ad ad 1 N q1) 0 0 o) 0 i = ad 0 i := fun i hi => by rw [kr_adO _ hi, kr_adN _ (by decide)]
    have z2 : (kr_ad (kr_ad ad 1 N q1) 0 0 o) 0 0 = o := kr_ad0 _
    have y : ∀ i, i ≠ 1 → i ≠ 0 → (kr_ad (kr_ad ad 1 N q1) 0 0 o) i = ad i := fun i hi h0 => by rw [kr_adN _ h0, kr_adN _ hi]
    unfold kr_cO
    rw [z 1 (by decide), z 2 (by decide), z2, show (kr_ad (kr_ad ad 1 N q1) 0 0 o) (1 + 1) = ad (1 + 1) from y 2 (by decide) (by decide), show (kr_ad (kr_ad ad 1 N q1) 0 0 o) (2 + 1) = ad (2 + 1) from y 3 (by decide) (by decide)]
  rw [aK, ← aR, ← aT, aX] at h1 h2
  exact kk H1 locs1 h1 h2 h3
set_option maxHeartbeats 1000000 in
/-- ropes, one row longer -/
theorem kr_wnR (hx : p.tables.exec = Jvm.exec) (hb : c.code = cc) (hts : ∀ w ∈ kr_all, w.before args s = true) {own : String} {index : Nat} (hown : s.vm.findClass own = some m.cls) (hlink : (Cond.fieldLink own index "KnotRackLaw$Sim" "ropes" "[[I").before args s = true) (hK : va_K D vwCl [(cy, .int), (cz, .array .int)] s) {q1 o n1 : Nat} {f1 : Nat → Int32} {fq : Nat → Option Nat} (hP : va_P D vwCl (((w ++ kr_SG cy cz g ad N LR LT A nR nT) ++ [(q1, .inl (cy, n1, .inl f1))]) ++ [(o, .inl (cz, LR + 1, .inr (.inr (.inr (.inr fq)))))]) H) (hD : va_D AA (((w ++ kr_SG cy cz g ad N LR LT A nR nT) ++ [(q1, .inl (cy, n1, .inl f1))]) ++ [(o, .inl (cz, LR + 1, .inr (.inr (.inr (.inr fq)))))])) (hS : va_S AA H0 H locs) (hq : ∀ k, k < LR → fq k = some (ad 2 k)) (hq1 : fq LR = some q1) (A' : Nat → Nat → Int32) (hA1 : ∀ j, j < n1 → f1 j = A' 7 (5 * LR + j)) (hA2 : ∀ i, i < N → ∀ j, j < 5 → A' j i = A j i) (hA3 : ∀ i, i < LR → ∀ j, j < nR i → A' 7 (5 * i + j) = A 7 (5 * i + j)) (hA4 : ∀ i, i < LT → ∀ j, j < nT i → A' 6 (5 * i + j) = A 6 (5 * i + j)) (hdg : decode cc pc = .ok (.putfield index, 3))
    (kk : ∀ (H1 : Heap) (locs1 : List Loc), va_P D vwCl (w ++ kr_SG cy cz g (kr_ad (kr_ad ad 2 LR q1) 0 1 o) N (LR + 1) LT A' (va_up nR LR n1) nT) H1 → va_D AA (w ++ kr_SG cy cz g (kr_ad (kr_ad ad 2 LR q1) 0 1 o) N (LR + 1) LT A' (va_up nR LR n1) nT) → va_S AA H0 H1 locs1 → W p l e R s m args below meth c H1 locs1 cells slots Q (F0 m (pc + 3) ls rest)) : W p l e R s m args below meth c H locs cells slots Q (F0 m pc ls (.ref o :: .ref g :: rest)) := by
  have hg : (((w ++ kr_SG cy cz g ad N LR LT A nR nT) ++ [(q1, .inl (cy, n1, .inl f1))]) ++ [(o, .inl (cz, LR + 1, .inr (.inr (.inr (.inr fq)))))])[w.length + 0]? = some (g, .inr (1, [.ref (ad 0 0), .ref (ad 0 1), .ref (ad 0 2)])) := kr_gl (kr_gl (kr_gr (ws := w) (i := 0) rfl))
  refine va_put (ci := 1) (v := .ref o) (ty := .array (.array .int)) (C := RX1) (T := TX1) (N := 3) hx hb hts kr_wsX1 tyX1 tyX1_ok nmX1 hown hK hP hD hS (w.length + 0) hg rfl 1 (by decide) hlink (fun _ h9 => h9) rfl (by decide +kernel) rfl rfl (Nat.le_of_ble_eq_true rfl) hdg (fun H1 locs1 h1 h2 h3 => ?_)
  have lw : w.length + 0 < (w ++ kr_SG cy cz g ad N LR LT A nR nT).length := by rw [List.length_append, kr_SGlen]; omega
  rw [List.set_append_left _ _ (by rw [List.length_append]; omega), List.set_append_left _ _ lw, kr_ljset, kr_sX (show 0 < (kr_X4 cz g ad N LR LT).length from Nat.le_of_ble_eq_true rfl)] at h1 h2
  have h1 : va_P D vwCl (((w ++ ((([(g, .inr (1, [.ref (ad 0 0), .ref o, .ref (ad 0 2)])), kr_cO cz ad 0 N, kr_cO cz ad 1 LR, kr_cO cz ad 2 LT] ++ kr_rw N (kr_cK cy ad A)) ++ kr_rw LR (kr_cR cy ad A nR)) ++ kr_rw LT (kr_cT cy ad A nT))) ++ [(q1, .inl (cy, n1, .inl f1))]) ++ [(o, .inl (cz, LR + 1, .inr (.inr (.inr (.inr fq)))))]) H1 := h1
  have h2 : va_D AA (((w ++ ((([(g, .inr (1, [.ref (ad 0 0), .ref o, .ref (ad 0 2)])), kr_cO cz ad 0 N, kr_cO cz ad 1 LR, kr_cO cz ad 2 LT] ++ kr_rw N (kr_cK cy ad A)) ++ kr_rw LR (kr_cR cy ad A nR)) ++ kr_rw LT (kr_cT cy ad A nT))) ++ [(q1, .inl (cy, n1, .inl f1))]) ++ [(o, .inl (cz, LR + 1, .inr (.inr (.inr (.inr fq)))))]) := h2
  have hcg : ∀ k, k < LR + 1 → fq k = some ((kr_ad (kr_ad ad 2 LR q1) 0 1 o) 2 k) := fun k hk => by
    by_cases e : k = LR
    · rw [e, hq1, kr_adN _ (by decide), kr_ad0]
    · rw [hq k (by omega), kr_adN _ (by decide), kr_adO _ e]
  have h1 := kr_Psw h1 (fun h => kr_cgQ h hcg)
  have h2 := kr_Dsw (e' := .inl (cz, LR + 1, .inr (.inr (.inr (.inr (fun k => some ((kr_ad (kr_ad ad 2 LR q1) 0 1 o) 2 k))))))) h2
  have l2 : w.length + 2 < (w ++ ((([(g, .inr (1, [.ref (ad 0 0), .ref o, .ref (ad 0 2)])), kr_cO cz ad 0 N, kr_cO cz ad 1 LR, kr_cO cz ad 2 LT] ++ kr_rw N (kr_cK cy ad A)) ++ kr_rw LR (kr_cR cy ad A nR)) ++ kr_rw LT (kr_cT cy ad A nT))).length := by
    rw [List.length_append, List.length_append, List.length_append, List.length_append]
    show w.length + 2 < w.length + (4 + _ + _ + _); omega
  have l3 : w.length + 2 < ((w ++ ((([(g, .inr (1, [.ref (ad 0 0), .ref o, .ref (ad 0 2)])), kr_cO cz ad 0 N, kr_cO cz ad 1 LR, kr_cO cz ad 2 LT] ++ kr_rw N (kr_cK cy ad A)) ++ kr_rw LR (kr_cR cy ad A nR)) ++ kr_rw LT (kr_cT cy ad A nT))) ++ [(q1, .inl (cy, n1, .inl f1))] : va_W).length := by rw [List.length_append]; omega
  have h1 := kr_swP h1 l3
  have h2 := kr_swD h2 l3
  rw [List.set_append_left _ _ l2, kr_ljset, kr_sX (show 2 < ([(g, .inr (1, [.ref (ad 0 0), .ref o, .ref (ad 0 2)])), kr_cO cz ad 0 N, kr_cO cz ad 1 LR, kr_cO cz ad 2 LT] : va_W).length from Nat.le_of_ble_eq_true rfl)] at h1 h2
  have h1 : va_P D vwCl ((w ++ ((([(g, .inr (1, [.ref (ad 0 0), .ref o, .ref (ad 0 2)])), kr_cO cz ad 0 N, (o, .inl (cz, LR + 1, .inr (.inr (.inr (.inr (fun k => some ((kr_ad (kr_ad ad 2 LR q1) 0 1 o) 2 k))))))), kr_cO cz ad 2 LT] ++ kr_rw N (kr_cK cy ad A)) ++ kr_rw LR (kr_cR cy ad A nR)) ++ kr_rw LT (kr_cT cy ad A nT))) ++ [(q1, .inl (cy, n1, .inl f1))]) H1 := h1
  have h2 : va_D AA ((w ++ ((([(g, .inr (1, [.ref (ad 0 0), .ref o, .ref (ad 0 2)])), kr_cO cz ad 0 N, (o, .inl (cz, LR + 1, .inr (.inr (.inr (.inr (fun k => some ((kr_ad (kr_ad ad 2 LR q1) 0 1 o) 2 k))))))), kr_cO cz ad 2 LT] ++ kr_rw N (kr_cK cy ad A)) ++ kr_rw LR (kr_cR cy ad A nR)) ++ kr_rw LT (kr_cT cy ad A nT))) ++ [(q1, .inl (cy, n1, .inl f1))]) := h2
  have h1 := kr_Psw h1 (fun h => kr_cgI h (f' := fun j => if j < n1 then A' 7 (5 * LR + j) else 0) (fun j hj => by rw [hA1 j hj, if_pos hj]))
  have h2 := kr_Dsw (e' := .inl (cy, n1, .inl (fun j => if j < n1 then A' 7 (5 * LR + j) else 0))) h2
  have h1 := kr_mvRP h1
  have h2 := kr_mvRD h2
  have aK : kr_rw N (kr_cK cy (kr_ad (kr_ad ad 2 LR q1) 0 1 o) A') = kr_rw N (kr_cK cy ad A) := kr_rw_cg (fun i hi => by
    have e1 : (kr_ad (kr_ad ad 2 LR q1) 0 1 o) 1 i = ad 1 i := by rw [kr_adN _ (by decide), kr_adN _ (by decide)]
    refine Eq.trans ?_ (kr_cKe (ad := ad) (hA2 i hi))
    show ((kr_ad (kr_ad ad 2 LR q1) 0 1 o) 1 i, _) = (ad 1 i, _)
    rw [e1])
  have aR : kr_rw LR (kr_cR cy ad A nR) ++ [(q1, .inl (cy, n1, .inl (fun j => if j < n1 then A' 7 (5 * LR + j) else 0)))] = kr_rw (LR + 1) (kr_cR cy (kr_ad (kr_ad ad 2 LR q1) 0 1 o) A' (va_up nR LR n1)) := by
    rw [kr_rw_s, show kr_rw LR (kr_cR cy (kr_ad (kr_ad ad 2 LR q1) 0 1 o) A' (va_up nR LR n1)) = kr_rw LR (kr_cR cy ad A nR) from kr_rw_cg (fun i hi => by
      have e1 : (kr_ad (kr_ad ad 2 LR q1) 0 1 o) 2 i = ad 2 i := by rw [kr_adN _ (by decide), kr_adO _ (by omega)]
      have e2 : (va_up nR LR n1) i = nR i := va_up_ne _ _ (by omega)
      refine Eq.trans ?_ (kr_cRe (ad := ad) (nR' := nR) rfl (hA3 i hi))
      show ((kr_ad (kr_ad ad 2 LR q1) 0 1 o) 2 i, Sum.inl (cy, (va_up nR LR n1) i, Sum.inl (fun j => if j < (va_up nR LR n1) i then A' 7 (5 * i + j) else (0 : Int32)))) = _
      rw [e1, e2])]
    congr 1
    show _ = [((kr_ad (kr_ad ad 2 LR q1) 0 1 o) 2 LR, Sum.inl (cy, (va_up nR LR n1) LR, Sum.inl (fun j => if j < (va_up nR LR n1) LR then A' 7 (5 * LR + j) else (0 : Int32))))]
    rw [kr_adN _ (by decide), kr_ad0, va_up_self]
  have aT : kr_rw LT (kr_cT cy (kr_ad (kr_ad ad 2 LR q1) 0 1 o) A' nT) = kr_rw LT (kr_cT cy ad A nT) := kr_rw_cg (fun i hi => by
    have e1 : (kr_ad (kr_ad ad 2 LR q1) 0 1 o) 3 i = ad 3 i := by rw [kr_adN _ (by decide), kr_adN _ (by decide)]
    refine Eq.trans ?_ (kr_cTe (ad := ad) rfl (hA4 i hi))
    show ((kr_ad (kr_ad ad 2 LR q1) 0 1 o) 3 i, _) = (ad 3 i, _)
    rw [e1])
  have aX : ([(g, .inr (1, [.ref (ad 0 0), .ref o, .ref (ad 0 2)])), kr_cO cz ad 0 N, (o, .inl (cz, LR + 1, .inr (.inr (.inr (.inr (fun k => some ((kr_ad (kr_ad ad 2 LR q1) 0 1 o) 2 k))))))), kr_cO cz ad 2 LT] : va_W) = kr_X4 cz g (kr_ad (kr_ad ad 2 LR q1) 0 1 o) N (LR + 1) LT := by
    show _ = [(g, Sum.inr (1, [Value.ref ((kr_ad (kr_ad ad 2 LR q1) 0 1 o) 0 0), Value.ref ((kr_ad (kr_ad ad 2 LR q1) 0 1 o) 0 1), Value.ref ((kr_ad (kr_ad ad 2 LR q1) 0 1 o) 0 2)])), kr_cO cz (kr_ad (kr_ad ad 2 LR q1) 0 1 o) 0 _, kr_cO cz (kr_ad (kr_ad ad 2 LR q1) 0 1 o) 1 _, kr_cO cz (kr_ad (kr_ad ad 2 LR q1) 0 1 o) 2 _]
    have z : ∀ i, i ≠ 1 → (kr_ad (kr_ad ad 2 LR q1) 0 1 o) 0 i = ad 0 i := fun i hi => by rw [kr_adO _ hi, kr_adN _ (by decide)]
    have z2 : (kr_ad (kr_ad ad 2 LR q1) 0 1 o) 0 1 = o := kr_ad0 _
    have y : ∀ i, i ≠ 2 → i ≠ 0 → (kr_ad (kr_ad ad 2 LR q1) 0 1 o) i = ad i := fun i hi h0 => by rw [kr_adN _ h0, kr_adN _ hi]
    unfold kr_cO
    rw [z 0 (by decide), z 2 (by decide), z2, show (kr_ad (kr_ad ad 2 LR q1) 0 1 o) (0 + 1) = ad (0 + 1) from y 1 (by decide) (by decide), show (kr_ad (kr_ad ad 2 LR q1) 0 1 o) (2 + 1) = ad (2 + 1) from y 3 (by decide) (by decide)]
  rw [← aK, aR, ← aT, aX] at h1 h2
  exact kk H1 locs1 h1 h2 h3
set_option maxHeartbeats 1000000 in
/-- tied, one row longer -/
theorem kr_wnT (hx : p.tables.exec = Jvm.exec) (hb : c.code = cc) (hts : ∀ w ∈ kr_all, w.before args s = true) {own : String} {index : Nat} (hown : s.vm.findClass own = some m.cls) (hlink : (Cond.fieldLink own index "KnotRackLaw$Sim" "tied" "[[I").before args s = true) (hK : va_K D vwCl [(cy, .int), (cz, .array .int)] s) {q1 o n1 : Nat} {f1 : Nat → Int32} {fq : Nat → Option Nat} (hP : va_P D vwCl (((w ++ kr_SG cy cz g ad N LR LT A nR nT) ++ [(q1, .inl (cy, n1, .inl f1))]) ++ [(o, .inl (cz, LT + 1, .inr (.inr (.inr (.inr fq)))))]) H) (hD : va_D AA (((w ++ kr_SG cy cz g ad N LR LT A nR nT) ++ [(q1, .inl (cy, n1, .inl f1))]) ++ [(o, .inl (cz, LT + 1, .inr (.inr (.inr (.inr fq)))))])) (hS : va_S AA H0 H locs) (hq : ∀ k, k < LT → fq k = some (ad 3 k)) (hq1 : fq LT = some q1) (A' : Nat → Nat → Int32) (hA1 : ∀ j, j < n1 → f1 j = A' 6 (5 * LT + j)) (hA2 : ∀ i, i < N → ∀ j, j < 5 → A' j i = A j i) (hA3 : ∀ i, i < LR → ∀ j, j < nR i → A' 7 (5 * i + j) = A 7 (5 * i + j)) (hA4 : ∀ i, i < LT → ∀ j, j < nT i → A' 6 (5 * i + j) = A 6 (5 * i + j)) (hdg : decode cc pc = .ok (.putfield index, 3))
    (kk : ∀ (H1 : Heap) (locs1 : List Loc), va_P D vwCl (w ++ kr_SG cy cz g (kr_ad (kr_ad ad 3 LT q1) 0 2 o) N LR (LT + 1) A' nR (va_up nT LT n1)) H1 → va_D AA (w ++ kr_SG cy cz g (kr_ad (kr_ad ad 3 LT q1) 0 2 o) N LR (LT + 1) A' nR (va_up nT LT n1)) → va_S AA H0 H1 locs1 → W p l e R s m args below meth c H1 locs1 cells slots Q (F0 m (pc + 3) ls rest)) : W p l e R s m args below meth c H locs cells slots Q (F0 m pc ls (.ref o :: .ref g :: rest)) := by
  have hg : (((w ++ kr_SG cy cz g ad N LR LT A nR nT) ++ [(q1, .inl (cy, n1, .inl f1))]) ++ [(o, .inl (cz, LT + 1, .inr (.inr (.inr (.inr fq)))))])[w.length + 0]? = some (g, .inr (1, [.ref (ad 0 0), .ref (ad 0 1), .ref (ad 0 2)])) := kr_gl (kr_gl (kr_gr (ws := w) (i := 0) rfl))
  refine va_put (ci := 1) (v := .ref o) (ty := .array (.array .int)) (C := RX1) (T := TX1) (N := 3) hx hb hts kr_wsX1 tyX1 tyX1_ok nmX1 hown hK hP hD hS (w.length + 0) hg rfl 2 (by decide) hlink (fun _ h9 => h9) rfl (by decide +kernel) rfl rfl (Nat.le_of_ble_eq_true rfl) hdg (fun H1 locs1 h1 h2 h3 => ?_)
  have lw : w.length + 0 < (w ++ kr_SG cy cz g ad N LR LT A nR nT).length := by rw [List.length_append, kr_SGlen]; omega
  rw [List.set_append_left _ _ (by rw [List.length_append]; omega), List.set_append_left _ _ lw, kr_ljset, kr_sX (show 0 < (kr_X4 cz g ad N LR LT).length from Nat.le_of_ble_eq_true rfl)] at h1 h2
  have h1 : va_P D vwCl (((w ++ ((([(g, .inr (1, [.ref (ad 0 0), .ref (ad 0 1), .ref o])), kr_cO cz ad 0 N, kr_cO cz ad 1 LR, kr_cO cz ad 2 LT] ++ kr_rw N (kr_cK cy ad A)) ++ kr_rw LR (kr_cR cy ad A nR)) ++ kr_rw LT (kr_cT cy ad A nT))) ++ [(q1, .inl (cy, n1, .inl f1))]) ++ [(o, .inl (cz, LT + 1, .inr (.inr (.inr (.inr fq)))))]) H1 := h1
  have h2 : va_D AA (((w ++ ((([(g, .inr (1, [.ref (ad 0 0), .ref (ad 0 1), .ref o])), kr_cO cz ad 0 N, kr_cO cz ad 1 LR, kr_cO cz ad 2 LT] ++ kr_rw N (kr_cK cy ad A)) ++ kr_rw LR (kr_cR cy ad A nR)) ++ kr_rw LT (kr_cT cy ad A nT))) ++ [(q1, .inl (cy, n1, .inl f1))]) ++ [(o, .inl (cz, LT + 1, .inr (.inr (.inr (.inr fq)))))]) := h2
  have hcg : ∀ k, k < LT + 1 → fq k = some ((kr_ad (kr_ad ad 3 LT q1) 0 2 o) 3 k) := fun k hk => by
    by_cases e : k = LT
    · rw [e, hq1, kr_adN _ (by decide), kr_ad0]
    · rw [hq k (by omega), kr_adN _ (by decide), kr_adO _ e]
  have h1 := kr_Psw h1 (fun h => kr_cgQ h hcg)
  have h2 := kr_Dsw (e' := .inl (cz, LT + 1, .inr (.inr (.inr (.inr (fun k => some ((kr_ad (kr_ad ad 3 LT q1) 0 2 o) 3 k))))))) h2
  have l2 : w.length + 3 < (w ++ ((([(g, .inr (1, [.ref (ad 0 0), .ref (ad 0 1), .ref o])), kr_cO cz ad 0 N, kr_cO cz ad 1 LR, kr_cO cz ad 2 LT] ++ kr_rw N (kr_cK cy ad A)) ++ kr_rw LR (kr_cR cy ad A nR)) ++ kr_rw LT (kr_cT cy ad A nT))).length := by
    rw [List.length_append, List.length_append, List.length_append, List.length_append]
    show w.length + 3 < w.length + (4 + _ + _ + _); omega
  have l3 : w.length + 3 < ((w ++ ((([(g, .inr (1, [.ref (ad 0 0), .ref (ad 0 1), .ref o])), kr_cO cz ad 0 N, kr_cO cz ad 1 LR, kr_cO cz ad 2 LT] ++ kr_rw N (kr_cK cy ad A)) ++ kr_rw LR (kr_cR cy ad A nR)) ++ kr_rw LT (kr_cT cy ad A nT))) ++ [(q1, .inl (cy, n1, .inl f1))] : va_W).length := by rw [List.length_append]; omega
  have h1 := kr_swP h1 l3
  have h2 := kr_swD h2 l3
  rw [List.set_append_left _ _ l2, kr_ljset, kr_sX (show 3 < ([(g, .inr (1, [.ref (ad 0 0), .ref (ad 0 1), .ref o])), kr_cO cz ad 0 N, kr_cO cz ad 1 LR, kr_cO cz ad 2 LT] : va_W).length from Nat.le_of_ble_eq_true rfl)] at h1 h2
  have h1 : va_P D vwCl ((w ++ ((([(g, .inr (1, [.ref (ad 0 0), .ref (ad 0 1), .ref o])), kr_cO cz ad 0 N, kr_cO cz ad 1 LR, (o, .inl (cz, LT + 1, .inr (.inr (.inr (.inr (fun k => some ((kr_ad (kr_ad ad 3 LT q1) 0 2 o) 3 k)))))))] ++ kr_rw N (kr_cK cy ad A)) ++ kr_rw LR (kr_cR cy ad A nR)) ++ kr_rw LT (kr_cT cy ad A nT))) ++ [(q1, .inl (cy, n1, .inl f1))]) H1 := h1
  have h2 : va_D AA ((w ++ ((([(g, .inr (1, [.ref (ad 0 0), .ref (ad 0 1), .ref o])), kr_cO cz ad 0 N, kr_cO cz ad 1 LR, (o, .inl (cz, LT + 1, .inr (.inr (.inr (.inr (fun k => some ((kr_ad (kr_ad ad 3 LT q1) 0 2 o) 3 k)))))))] ++ kr_rw N (kr_cK cy ad A)) ++ kr_rw LR (kr_cR cy ad A nR)) ++ kr_rw LT (kr_cT cy ad A nT))) ++ [(q1, .inl (cy, n1, .inl f1))]) := h2
  have h1 := kr_Psw h1 (fun h => kr_cgI h (f' := fun j => if j < n1 then A' 6 (5 * LT + j) else 0) (fun j hj => by rw [hA1 j hj, if_pos hj]))
  have h2 := kr_Dsw (e' := .inl (cy, n1, .inl (fun j => if j < n1 then A' 6 (5 * LT + j) else 0))) h2
  have h1 := kr_mvTP h1
  have h2 := kr_mvTD h2
  have aK : kr_rw N (kr_cK cy (kr_ad (kr_ad ad 3 LT q1) 0 2 o) A') = kr_rw N (kr_cK cy ad A) := kr_rw_cg (fun i hi => by
    have e1 : (kr_ad (kr_ad ad 3 LT q1) 0 2 o) 1 i = ad 1 i := by rw [kr_adN _ (by decide), kr_adN _ (by decide)]
    refine Eq.trans ?_ (kr_cKe (ad := ad) (hA2 i hi))
    show ((kr_ad (kr_ad ad 3 LT q1) 0 2 o) 1 i, _) = (ad 1 i, _)
    rw [e1])
  have aR : kr_rw LR (kr_cR cy (kr_ad (kr_ad ad 3 LT q1) 0 2 o) A' nR) = kr_rw LR (kr_cR cy ad A nR) := kr_rw_cg (fun i hi => by
    have e1 : (kr_ad (kr_ad ad 3 LT q1) 0 2 o) 2 i = ad 2 i := by rw [kr_adN _ (by decide), kr_adN _ (by decide)]
    refine Eq.trans ?_ (kr_cRe (ad := ad) rfl (hA3 i hi))
    show ((kr_ad (kr_ad ad 3 LT q1) 0 2 o) 2 i, _) = (ad 2 i, _)
    rw [e1])
  have aT : kr_rw LT (kr_cT cy ad A nT) ++ [(q1, .inl (cy, n1, .inl (fun j => if j < n1 then A' 6 (5 * LT + j) else 0)))] = kr_rw (LT + 1) (kr_cT cy (kr_ad (kr_ad ad 3 LT q1) 0 2 o) A' (va_up nT LT n1)) := by
    rw [kr_rw_s, show kr_rw LT (kr_cT cy (kr_ad (kr_ad ad 3 LT q1) 0 2 o) A' (va_up nT LT n1)) = kr_rw LT (kr_cT cy ad A nT) from kr_rw_cg (fun i hi => by
      have e1 : (kr_ad (kr_ad ad 3 LT q1) 0 2 o) 3 i = ad 3 i := by rw [kr_adN _ (by decide), kr_adO _ (by omega)]
      have e2 : (va_up nT LT n1) i = nT i := va_up_ne _ _ (by omega)
      refine Eq.trans ?_ (kr_cTe (ad := ad) (nT' := nT) rfl (hA4 i hi))
      show ((kr_ad (kr_ad ad 3 LT q1) 0 2 o) 3 i, Sum.inl (cy, (va_up nT LT n1) i, Sum.inl (fun j => if j < (va_up nT LT n1) i then A' 6 (5 * i + j) else (0 : Int32)))) = _
      rw [e1, e2])]
    congr 1
    show _ = [((kr_ad (kr_ad ad 3 LT q1) 0 2 o) 3 LT, Sum.inl (cy, (va_up nT LT n1) LT, Sum.inl (fun j => if j < (va_up nT LT n1) LT then A' 6 (5 * LT + j) else (0 : Int32))))]
    rw [kr_adN _ (by decide), kr_ad0, va_up_self]
  have aX : ([(g, .inr (1, [.ref (ad 0 0), .ref (ad 0 1), .ref o])), kr_cO cz ad 0 N, kr_cO cz ad 1 LR, (o, .inl (cz, LT + 1, .inr (.inr (.inr (.inr (fun k => some ((kr_ad (kr_ad ad 3 LT q1) 0 2 o) 3 k)))))))] : va_W) = kr_X4 cz g (kr_ad (kr_ad ad 3 LT q1) 0 2 o) N LR (LT + 1) := by
    show _ = [(g, Sum.inr (1, [Value.ref ((kr_ad (kr_ad ad 3 LT q1) 0 2 o) 0 0), Value.ref ((kr_ad (kr_ad ad 3 LT q1) 0 2 o) 0 1), Value.ref ((kr_ad (kr_ad ad 3 LT q1) 0 2 o) 0 2)])), kr_cO cz (kr_ad (kr_ad ad 3 LT q1) 0 2 o) 0 _, kr_cO cz (kr_ad (kr_ad ad 3 LT q1) 0 2 o) 1 _, kr_cO cz (kr_ad (kr_ad ad 3 LT q1) 0 2 o) 2 _]
    have z : ∀ i, i ≠ 2 → (kr_ad (kr_ad ad 3 LT q1) 0 2 o) 0 i = ad 0 i := fun i hi => by rw [kr_adO _ hi, kr_adN _ (by decide)]
    have z2 : (kr_ad (kr_ad ad 3 LT q1) 0 2 o) 0 2 = o := kr_ad0 _
    have y : ∀ i, i ≠ 3 → i ≠ 0 → (kr_ad (kr_ad ad 3 LT q1) 0 2 o) i = ad i := fun i hi h0 => by rw [kr_adN _ h0, kr_adN _ hi]
    unfold kr_cO
    rw [z 0 (by decide), z 1 (by decide), z2, show (kr_ad (kr_ad ad 3 LT q1) 0 2 o) (0 + 1) = ad (0 + 1) from y 1 (by decide) (by decide), show (kr_ad (kr_ad ad 3 LT q1) 0 2 o) (1 + 1) = ad (1 + 1) from y 2 (by decide) (by decide)]
  rw [← aK, ← aR, aT, aX] at h1 h2
  exact kk H1 locs1 h1 h2 h3
end KRSN
