section KRD
variable {p : Program} {l : Launch} {e : Env} {R : Room} {s : State} {m : MethodId} {args : Array Value} {below : List Frame} {meth : Method} {c : Code} {H : Heap} {locs : List Loc} {cells slots : Nat} {cc : ByteArray} {pc : Nat} {ls : Array Slot} {D : va_G} {ws : va_W} {cy : ClassId} {AA : Nat → Prop}
theorem kr_eD {post : UInt64 → Prop} {v : UInt64} (hx : p.tables.exec = Jvm.exec) (hb : c.code = cc) (hr : meth.sig.returnType = some .double) (hlocks : meth.locks = false) (hH : H = s.heap) (hp : post v) (hdg : decode cc pc = .ok (.dreturn, 1)) : W p l e R s m args below meth c H [] cells slots (MQ below (vp_Sd post) args s cells slots (fun _ => False)) (F0 m pc ls [.double v]) := W.dret hx hb hr (fun t ht _ => ⟨v, rfl, hp, ht.trans hH⟩) (fun q hq => absurd hq List.not_mem_nil) hdg hlocks
theorem kr_wD {post : UInt64 → Prop} {v : UInt64} (hx : p.tables.exec = Jvm.exec) (hb : c.code = cc) (hr : meth.sig.returnType = some .double) (hlocks : meth.locks = false) (hP : va_P D vwCl ws H) (hK : va_K D vwCl [(cy, .int)] s) (hD : va_D AA ws) (hS : va_S AA s.heap H locs) (hp : post v) (hdg : decode cc pc = .ok (.dreturn, 1)) : W p l e R s m args below meth c H locs cells slots (MQ below (va_Qd (fun r (_ : Unit) => post r) (fun _ t => kr_Rq D ws cy AA t) AA) args s cells slots AA) (F0 m pc ls [.double v]) := W.dret hx hb hr (fun t ht hW => ⟨⟨v, (), rfl, hp, by rw [ht]; exact hP, va_K.moved hW.alike hK, hD⟩, hS.F ht⟩) hS.2.2 hdg hlocks
end KRD
/-- d, worked on with the first n words of a row -/
def kr_df (G : Nat → Int32) (d : Int64) : Nat → Int64
  | 0 => d
  | n + 1 => kr_dw (kr_df G d n) (G n)
set_option maxHeartbeats 4000000 in
set_option maxRecDepth 100000 in
theorem c_X0_meanEfficiency (l : Launch) (D : va_G) (cy : ClassId) (h : Nat) (a : Nat → Nat) (N L : Nat) (A : Nat → Nat → Int32) (hN : N ≤ 16) (hwe : kr_we N A) : Met l yX0_meanEfficiency (Cond.code yX0_meanEfficiency cX0_meanEfficiency 3 (some .double) :: kr_all) ({ frames := 0, cells := 0, slots := 0, locals := 0 }) (va_Pc [.ref h] (kr_R D (kr_W0 cy h a N L A) cy)) (vp_Sd (fun r => r = kr_m2 N A)) 0 0 (fun _ => False) := by
  refine kr_of (by decide) (Nat.le_of_ble_eq_true rfl) ?_
  intro p e s m below meth c ls hx hb hml hr hts hown hlocks hin hv hl
  obtain ⟨hP, hK⟩ := hv
  have hown : s.vm.findClass RX0 = some m.cls := hown
  have hl : lv_has ls 3 [(0, .ref h)] := hl
  refine lv_aload_n hx hb dX0_meanEfficiency_0 rfl (lv_at hl 0 rfl) ?_
  refine va_get (ci := 0) (v := .int (nI N)) (C := RX0) (T := TX0) (N := 10) hx hb hts kr_wsX0 hown hK hP 0 rfl rfl 5 (by decide) (hts _ kq_70) (fun _ h9 => h9) rfl dX0_meanEfficiency_1 ?_
  refine lv_if_ne (tgt := 9) hx hb dX0_meanEfficiency_4 (by decide) (fun c4 => ?_) (fun c4 => ?_)
  · have h0 : ¬ N = 0 := fun w => c4 (by rw [w]; rfl)
    refine lv_iconst (v := 0) hx hb dX0_meanEfficiency_9 (by decide) ?_
    refine lv_istore_n (lv' := [(1, .int 0), (0, .ref h)]) hx hb dX0_meanEfficiency_10 rfl hl (by decide) rfl (fun ls hl => ?_)
    refine lv_iconst (v := 0) hx hb dX0_meanEfficiency_11 (by decide) ?_
    refine lv_istore_n (lv' := [(2, .int 0), (1, .int 0), (0, .ref h)]) hx hb dX0_meanEfficiency_12 rfl hl (by decide) rfl (fun ls hl => ?_)
    refine kr_lp (nL := 3) (fun z : Nat => [(2, .int (nI z)), (1, .int (kr_sm A z)), (0, .ref h)]) (fun z => z ≤ N) (fun z => N - z) ?_ (0) (Nat.zero_le _) (lv_sub hl [0, 1, 2] rfl)
    clear hl
    intro z ls hI hl ih
    obtain ⟨i, rfl⟩ : ∃ y, y = z := ⟨_, rfl⟩
    have hl : lv_has ls 3 [(2, .int (nI i)), (1, .int (kr_sm A i)), (0, .ref h)] := hl
    obtain hi0 : i ≤ N := hI
    refine lv_iload_n hx hb dX0_meanEfficiency_13 rfl (lv_at hl 0 rfl) ?_
    refine lv_aload_n hx hb dX0_meanEfficiency_14 rfl (lv_at hl 2 rfl) ?_
    refine va_get (ci := 0) (v := .int (nI N)) (C := RX0) (T := TX0) (N := 10) hx hb hts kr_wsX0 hown hK hP 0 rfl rfl 5 (by decide) (hts _ kq_70) (fun _ h9 => h9) rfl dX0_meanEfficiency_15 ?_
    refine lv_icmp_ge (tgt := 36) hx hb dX0_meanEfficiency_18 (by decide) (fun c18 => ?_) (fun c18 => ?_)
    · have hi2 : i = N := by have := kr_ge (by omega) (by omega) c18; omega
      refine lv_iload_n hx hb dX0_meanEfficiency_36 rfl (lv_at hl 1 rfl) ?_
      refine lv_i2d hx hb dX0_meanEfficiency_37 ?_
      refine lv_aload_n hx hb dX0_meanEfficiency_38 rfl (lv_at hl 2 rfl) ?_
      refine va_get (ci := 0) (v := .int (nI N)) (C := RX0) (T := TX0) (N := 10) hx hb hts kr_wsX0 hown hK hP 0 rfl rfl 5 (by decide) (hts _ kq_70) (fun _ h9 => h9) rfl dX0_meanEfficiency_39 ?_
      refine lv_i2d hx hb dX0_meanEfficiency_42 ?_
      refine lv_ddiv hx hb dX0_meanEfficiency_43 (by have h9 := kr_m2_vf hN hwe; unfold kr_m2 at h9; rw [if_neg h0] at h9; rw [hi2]; exact h9) ?_
      exact kr_eD hx hb hr hlocks rfl (by rw [hi2]; exact (if_neg h0).symm) dX0_meanEfficiency_44
    · have hi : i < N := kr_lt (by omega) (by omega) c18
      refine lv_iload_n hx hb dX0_meanEfficiency_21 rfl (lv_at hl 1 rfl) ?_
      refine lv_aload_n hx hb dX0_meanEfficiency_22 rfl (lv_at hl 2 rfl) ?_
      refine va_get (ci := 0) (v := .ref (a 1)) (C := RX0) (T := TX0) (N := 10) hx hb hts kr_wsX0 hown hK hP 0 rfl rfl 1 (by decide) (hts _ kq_66) (fun _ h9 => h9) rfl dX0_meanEfficiency_23 ?_
      refine lv_iload_n hx hb dX0_meanEfficiency_26 rfl (lv_at hl 0 rfl) ?_
      refine kr_ald hx hb hK hP 2 0 rfl rfl i (by omega) (by decide) dX0_meanEfficiency_27 ?_
      refine lv_iadd hx hb dX0_meanEfficiency_28 ?_
      refine lv_istore_n (lv' := [(1, .int ((kr_sm A i) + (A 1 i))), (2, .int (nI i)), (0, .ref h)]) hx hb dX0_meanEfficiency_29 rfl hl (by decide) rfl (fun ls hl => ?_)
      refine lv_iinc (v := nI (i + 1)) (lv' := [(2, .int (nI (i + 1))), (1, .int ((kr_sm A i) + (A 1 i))), (0, .ref h)]) hx hb dX0_meanEfficiency_30 hl (k := 1) rfl (kr_inc _) (by decide) rfl (fun ls hl => ?_)
      refine lv_goto (tgt := 13) hx hb dX0_meanEfficiency_33 (by decide) ?_
      exact ih (i + 1) ls (show i + 1 ≤ N by omega) (by show N - (i + 1) < N - i; omega) (lv_sub hl [0, 1, 2] rfl)
  · have h0 : N = 0 := (nI_eq (a := N) (b := 0) (by omega) (by decide)).mp c4
    refine lv_dconst0 hx hb dX0_meanEfficiency_7 ?_
    exact kr_eD hx hb hr hlocks rfl (if_pos h0).symm dX0_meanEfficiency_8
set_option maxHeartbeats 4000000 in
set_option maxRecDepth 100000 in
theorem c_X1_meanEfficiency (l : Launch) (D : va_G) (cy : ClassId) (h : Nat) (a : Nat → Nat) (th : Int32) (N L : Nat) (A : Nat → Nat → Int32) (sz : Nat) (hN : N ≤ 16) (hwe : kr_we N A) : Met l yX1_meanEfficiency (Cond.code yX1_meanEfficiency cX1_meanEfficiency 3 (some .double) :: kr_all) ({ frames := 0, cells := 0, slots := 0, locals := 0 }) (va_Pc [.ref h] (kr_Rw D (kr_W1 cy h a th N L A) cy sz)) (va_Qd (fun r (_ : Unit) => r = kr_m2 N A) (fun _ t => kr_Rq D (kr_W1 cy h a 0 N L A) cy (va_A (kr_W1 cy h a th N L A) sz) t) (va_A (kr_W1 cy h a th N L A) sz)) 0 0 (va_A (kr_W1 cy h a th N L A) sz) := by
  refine kr_ofw (Qc := fun AA => va_Qd (fun r (_ : Unit) => r = kr_m2 N A) (fun _ t => kr_Rq D (kr_W1 cy h a 0 N L A) cy AA t) AA) (by decide) (Nat.le_of_ble_eq_true rfl) ?_
  intro p e s m below meth c ls AA hx hb hml hr hts hown hlocks hin hA hP hK hD hS hl
  have hown : s.vm.findClass RX1 = some m.cls := hown
  have hl : lv_has ls 3 [(0, .ref h)] := hl
  refine lv_aload_n hx hb dX1_meanEfficiency_0 rfl (lv_at hl 0 rfl) ?_
  refine lv_iconst (v := 0) hx hb dX1_meanEfficiency_1 (by decide) ?_
  refine va_put (ci := 1) (v := .int 0) (ty := .int) (C := RX1) (T := TX1) (N := 11) hx hb hts kr_wsX1 tyX1 tyX1_ok nmX1 hown hK hP hD hS 0 rfl rfl 0 (by decide) (hts _ kq_542) (fun _ h9 => h9) rfl (by decide +kernel) rfl rfl (Nat.le_of_ble_eq_true rfl) dX1_meanEfficiency_2 (fun H locs hP hD hS => ?_)
  have hP : va_P D vwCl (kr_W1 cy h a 0 N L A) H := hP
  have hD : va_D AA (kr_W1 cy h a 0 N L A) := hD
  refine lv_iconst (v := 0) hx hb dX1_meanEfficiency_5 (by decide) ?_
  refine lv_istore_n (lv' := [(1, .int 0), (0, .ref h)]) hx hb dX1_meanEfficiency_6 rfl hl (by decide) rfl (fun ls hl => ?_)
  refine lv_iconst (v := 0) hx hb dX1_meanEfficiency_7 (by decide) ?_
  refine lv_istore_n (lv' := [(2, .int 0), (1, .int 0), (0, .ref h)]) hx hb dX1_meanEfficiency_8 rfl hl (by decide) rfl (fun ls hl => ?_)
  refine kr_lpH (nL := 3) (fun z : Nat => [(2, .int (nI z)), (1, .int (kr_sm A z)), (0, .ref h)]) (fun z H locs => (z ≤ N) ∧ va_P D vwCl (kr_W1 cy h a 0 N L A) H ∧ va_D AA (kr_W1 cy h a 0 N L A) ∧ va_S AA s.heap H locs) (fun z => N - z) ?_ (0) ⟨(Nat.zero_le _), hP, hD, hS⟩ (lv_sub hl [0, 1, 2] rfl)
  clear hl hP hD hS
  intro z H locs ls hI hl ih
  obtain ⟨i, rfl⟩ : ∃ y, y = z := ⟨_, rfl⟩
  have hl : lv_has ls 3 [(2, .int (nI i)), (1, .int (kr_sm A i)), (0, .ref h)] := hl
  obtain ⟨hi0, hP, hD, hS⟩ : (i ≤ N) ∧ va_P D vwCl (kr_W1 cy h a 0 N L A) H ∧ va_D AA (kr_W1 cy h a 0 N L A) ∧ va_S AA s.heap H locs := hI
  refine lv_iload_n hx hb dX1_meanEfficiency_9 rfl (lv_at hl 0 rfl) ?_
  refine lv_aload_n hx hb dX1_meanEfficiency_10 rfl (lv_at hl 2 rfl) ?_
  refine va_get (ci := 1) (v := .int (nI N)) (C := RX1) (T := TX1) (N := 11) hx hb hts kr_wsX1 hown hK hP 0 rfl rfl 1 (by decide) (hts _ kq_543) (fun _ h9 => h9) rfl dX1_meanEfficiency_11 ?_
  refine lv_icmp_ge (tgt := 32) hx hb dX1_meanEfficiency_14 (by decide) (fun c14 => ?_) (fun c14 => ?_)
  · have hi2 : i = N := by have := kr_ge (by omega) (by omega) c14; omega
    refine lv_aload_n hx hb dX1_meanEfficiency_32 rfl (lv_at hl 2 rfl) ?_
    refine va_get (ci := 1) (v := .int (nI N)) (C := RX1) (T := TX1) (N := 11) hx hb hts kr_wsX1 hown hK hP 0 rfl rfl 1 (by decide) (hts _ kq_543) (fun _ h9 => h9) rfl dX1_meanEfficiency_33 ?_
    refine lv_if_ne (tgt := 43) hx hb dX1_meanEfficiency_36 (by decide) (fun c36 => ?_) (fun c36 => ?_)
    · have h0 : ¬ N = 0 := fun w => c36 (by rw [w]; rfl)
      refine lv_iload_n hx hb dX1_meanEfficiency_43 rfl (lv_at hl 1 rfl) ?_
      refine lv_i2d hx hb dX1_meanEfficiency_44 ?_
      refine lv_aload_n hx hb dX1_meanEfficiency_45 rfl (lv_at hl 2 rfl) ?_
      refine va_get (ci := 1) (v := .int (nI N)) (C := RX1) (T := TX1) (N := 11) hx hb hts kr_wsX1 hown hK hP 0 rfl rfl 1 (by decide) (hts _ kq_543) (fun _ h9 => h9) rfl dX1_meanEfficiency_46 ?_
      refine lv_i2d hx hb dX1_meanEfficiency_49 ?_
      refine lv_ddiv hx hb dX1_meanEfficiency_50 (by have h9 := kr_m2_vf hN hwe; unfold kr_m2 at h9; rw [if_neg h0] at h9; rw [hi2]; exact h9) ?_
      exact kr_wD hx hb hr hlocks hP hK hD hS (by rw [hi2]; exact (if_neg h0).symm) dX1_meanEfficiency_51
    · have h0 : N = 0 := (nI_eq (a := N) (b := 0) (by omega) (by decide)).mp c36
      refine lv_dconst0 hx hb dX1_meanEfficiency_39 ?_
      refine lv_goto (tgt := 51) hx hb dX1_meanEfficiency_40 (by decide) ?_
      exact kr_wD hx hb hr hlocks hP hK hD hS (if_pos h0).symm dX1_meanEfficiency_51
  · have hi : i < N := kr_lt (by omega) (by omega) c14
    refine lv_iload_n hx hb dX1_meanEfficiency_17 rfl (lv_at hl 1 rfl) ?_
    refine lv_aload_n hx hb dX1_meanEfficiency_18 rfl (lv_at hl 2 rfl) ?_
    refine va_get (ci := 1) (v := .ref (a 1)) (C := RX1) (T := TX1) (N := 11) hx hb hts kr_wsX1 hown hK hP 0 rfl rfl 3 (by decide) (hts _ kq_545) (fun _ h9 => h9) rfl dX1_meanEfficiency_19 ?_
    refine lv_iload_n hx hb dX1_meanEfficiency_22 rfl (lv_at hl 0 rfl) ?_
    refine kr_ald hx hb hK hP 2 0 rfl rfl i (by omega) (by decide) dX1_meanEfficiency_23 ?_
    refine lv_iadd hx hb dX1_meanEfficiency_24 ?_
    refine lv_istore_n (lv' := [(1, .int ((kr_sm A i) + (A 1 i))), (2, .int (nI i)), (0, .ref h)]) hx hb dX1_meanEfficiency_25 rfl hl (by decide) rfl (fun ls hl => ?_)
    refine lv_iinc (v := nI (i + 1)) (lv' := [(2, .int (nI (i + 1))), (1, .int ((kr_sm A i) + (A 1 i))), (0, .ref h)]) hx hb dX1_meanEfficiency_26 hl (k := 1) rfl (kr_inc _) (by decide) rfl (fun ls hl => ?_)
    refine lv_goto (tgt := 9) hx hb dX1_meanEfficiency_29 (by decide) ?_
    exact ih (i + 1) _ _ ls ⟨(show i + 1 ≤ N by omega), hP, hD, hS⟩ (by show N - (i + 1) < N - i; omega) (lv_sub hl [0, 1, 2] rfl)
set_option maxHeartbeats 4000000 in
set_option maxRecDepth 100000 in
theorem c_X1_digest (l : Launch) (D : va_G) (cy : ClassId) (h : Nat) (a : Nat → Nat) (th : Int32) (N L : Nat) (A : Nat → Nat → Int32) (sz : Nat) (hw : kr_wf N L A) : Met l yX1_digest (Cond.code yX1_digest cX1_digest 9 (some .long) :: kr_all) ({ frames := 5, cells := 16, slots := 112, locals := 108 }) (va_Pc [.ref h] (kr_Rw D (kr_W1 cy h a th N L A) cy sz)) (va_Ql (fun r (_ : Unit) => r = kr_dg N L A) (fun _ t => kr_Rq D (kr_W1 cy h a 0 N L A) cy (va_A (kr_W1 cy h a th N L A) sz) t) (va_A (kr_W1 cy h a th N L A) sz)) 16 112 (va_A (kr_W1 cy h a th N L A) sz) := by
  refine kr_ofw (Qc := fun AA => va_Ql (fun r (_ : Unit) => r = kr_dg N L A) (fun _ t => kr_Rq D (kr_W1 cy h a 0 N L A) cy AA t) AA) (by decide) (Nat.le_of_ble_eq_true rfl) ?_
  intro p e s m below meth c ls AA hx hb hml hr hts hown hlocks hin hA hP hK hD hS hl
  have hown : s.vm.findClass RX1 = some m.cls := hown
  have hl : lv_has ls 9 [(0, .ref h)] := hl
  have hN := hw.1
  have hL := hw.2.1
  refine lv_aload_n hx hb dX1_digest_0 rfl (lv_at hl 0 rfl) ?_
  refine lv_iconst (v := 0) hx hb dX1_digest_1 (by decide) ?_
  refine va_put (ci := 1) (v := .int 0) (ty := .int) (C := RX1) (T := TX1) (N := 11) hx hb hts kr_wsX1 tyX1 tyX1_ok nmX1 hown hK hP hD hS 0 rfl rfl 0 (by decide) (hts _ kq_542) (fun _ h9 => h9) rfl (by decide +kernel) rfl rfl (Nat.le_of_ble_eq_true rfl) dX1_digest_2 (fun H locs hP hD hS => ?_)
  have hP : va_P D vwCl (kr_W1 cy h a 0 N L A) H := hP
  have hD : va_D AA (kr_W1 cy h a 0 N L A) := hD
  refine lv_ldc2 (v := 63953) hx hb hown (hts _ kq_807) dX1_digest_5 ?_
  refine lv_aload_n hx hb dX1_digest_8 rfl (lv_at hl 0 rfl) ?_
  refine va_get (ci := 1) (v := .int (nI N)) (C := RX1) (T := TX1) (N := 11) hx hb hts kr_wsX1 hown hK hP 0 rfl rfl 1 (by decide) (hts _ kq_543) (fun _ h9 => h9) rfl dX1_digest_9 ?_
  refine lv_i2l (v := (nI N).toInt64) hx hb dX1_digest_12 rfl ?_
  refine lv_ladd hx hb dX1_digest_13 ?_
  refine lv_ldc2 (v := 31) hx hb hown (hts _ kq_808) dX1_digest_14 ?_
  refine lv_lmul hx hb dX1_digest_17 ?_
  refine lv_aload_n hx hb dX1_digest_18 rfl (lv_at hl 0 rfl) ?_
  refine va_get (ci := 1) (v := .int (nI L)) (C := RX1) (T := TX1) (N := 11) hx hb hts kr_wsX1 hown hK hP 0 rfl rfl 7 (by decide) (hts _ kq_549) (fun _ h9 => h9) rfl dX1_digest_19 ?_
  refine lv_i2l (v := (nI L).toInt64) hx hb dX1_digest_22 rfl ?_
  refine lv_ladd hx hb dX1_digest_23 ?_
  refine lv_ldc2 (v := 31) hx hb hown (hts _ kq_808) dX1_digest_24 ?_
  refine lv_lmul hx hb dX1_digest_27 ?_
  refine lv_aload_n hx hb dX1_digest_28 rfl (lv_at hl 0 rfl) ?_
  refine kr_vI (n := 0) (As := []) (rest := [.long ((((63953 + ((nI N).toInt64)) * 31) + ((nI L).toInt64)) * 31)]) ⟨hx, hb, hml, hown, hts⟩ (c_X1_strongest l D cy h a 0 N L A hw) kg_RX1_137 ⟨rfl, rfl⟩ (by decide +kernel) ⟨Nat.le_of_ble_eq_true rfl, Nat.le_of_ble_eq_true rfl⟩ (kr_pv1 hP hK) rfl hl.1 rfl (Nat.le_of_ble_eq_true rfl) dX1_digest_29 ⟨Nat.zero_le _, Nat.zero_le _⟩ (fun r9 e9 => ?_)
  subst e9
  refine lv_i2l (v := (kr_sg A L 0 (-1)).toInt64) hx hb dX1_digest_32 rfl ?_
  refine lv_ladd hx hb dX1_digest_33 ?_
  refine lv_lstore_n (lv' := [(1, .long (((((63953 + ((nI N).toInt64)) * 31) + ((nI L).toInt64)) * 31) + ((kr_sg A L 0 (-1)).toInt64))), (0, .ref h)]) hx hb dX1_digest_34 rfl hl (by decide) rfl (fun ls hl => ?_)
  refine lv_iconst (v := 0) hx hb dX1_digest_35 (by decide) ?_
  refine lv_istore_n (lv' := [(3, .int 0), (1, .long (((((63953 + ((nI N).toInt64)) * 31) + ((nI L).toInt64)) * 31) + ((kr_sg A L 0 (-1)).toInt64))), (0, .ref h)]) hx hb dX1_digest_36 rfl hl (by decide) rfl (fun ls hl => ?_)
  refine kr_lpC (nL := 9) (fun z : Nat × Int64 => [(0, .ref h), (1, .long z.2), (3, .int (nI z.1))]) (fun z H locs => (z.1 ≤ N ∧ kr_dks A N (N - z.1) z.1 z.2 = kr_dks A N N 0 (((((63953 + ((nI N).toInt64)) * 31) + ((nI L).toInt64)) * 31) + ((kr_sg A L 0 (-1)).toInt64))) ∧ va_P D vwCl (kr_W1 cy h a 0 N L A) H ∧ va_D AA (kr_W1 cy h a 0 N L A) ∧ va_S AA s.heap H locs) (fun z => N - z.1) (fun z => z.1) (fun z => 7 * z.1) ?_ (0, ((((63953 + ((nI N).toInt64)) * 31) + ((nI L).toInt64)) * 31) + ((kr_sg A L 0 (-1)).toInt64)) ⟨⟨Nat.zero_le _, rfl⟩, hP, hD, hS⟩ (lv_sub hl [2, 1, 0] rfl)
  clear hl hP hD hS
  intro z H locs ls hI hl ih
  obtain ⟨i, d⟩ := z
  have hl : lv_has ls 9 [(0, .ref h), (1, .long d), (3, .int (nI i))] := hl
  obtain ⟨⟨hi0, he⟩, hP, hD, hS⟩ : (i ≤ N ∧ kr_dks A N (N - i) i d = kr_dks A N N 0 (((((63953 + ((nI N).toInt64)) * 31) + ((nI L).toInt64)) * 31) + ((kr_sg A L 0 (-1)).toInt64))) ∧ va_P D vwCl (kr_W1 cy h a 0 N L A) H ∧ va_D AA (kr_W1 cy h a 0 N L A) ∧ va_S AA s.heap H locs := hI
  show W _ _ _ _ _ _ _ _ _ _ H locs i (7 * i) _ _
  refine lv_iload_n hx hb dX1_digest_37 rfl (lv_at hl 2 rfl) ?_
  refine lv_aload_n hx hb dX1_digest_38 rfl (lv_at hl 0 rfl) ?_
  refine va_get (ci := 1) (v := .int (nI N)) (C := RX1) (T := TX1) (N := 11) hx hb hts kr_wsX1 hown hK hP 0 rfl rfl 1 (by decide) (hts _ kq_543) (fun _ h9 => h9) rfl dX1_digest_39 ?_
  refine lv_icmp_ge (tgt := 161) hx hb dX1_digest_42 (by decide) (fun c42 => ?_) (fun c42 => ?_)
  · refine W.widen (k := 16) (n := 112) (by omega) (by omega) ?_
    have hi2 : i = N := by have := kr_ge (by omega) (by omega) c42; omega
    rw [hi2, Nat.sub_self] at he
    have he : d = kr_dks A N N 0 (((((63953 + ((nI N).toInt64)) * 31) + ((nI L).toInt64)) * 31) + ((kr_sg A L 0 (-1)).toInt64)) := he
    refine lv_iconst (v := 0) hx hb dX1_digest_161 (by decide) ?_
    refine lv_istore_n (lv' := [(3, .int 0), (0, .ref h), (1, .long d)]) hx hb dX1_digest_162 rfl hl (by decide) rfl (fun ls hl => ?_)
    refine kr_lp (nL := 9) (fun z : Nat × Int64 => [(3, .int (nI z.1)), (0, .ref h), (1, .long z.2)]) (fun z => z.1 ≤ L ∧ kr_dls A (L - z.1) z.1 z.2 = kr_dls A L 0 d) (fun z => L - z.1) ?_ (0, d) ⟨Nat.zero_le _, rfl⟩ (lv_sub hl [0, 1, 2] rfl)
    clear hl
    intro z ls hI hl ih
    obtain ⟨j, d2⟩ := z
    have hl : lv_has ls 9 [(3, .int (nI j)), (0, .ref h), (1, .long d2)] := hl
    obtain ⟨hj0, hf⟩ : j ≤ L ∧ kr_dls A (L - j) j d2 = kr_dls A L 0 d := hI
    refine lv_iload_n hx hb dX1_digest_163 rfl (lv_at hl 0 rfl) ?_
    refine lv_aload_n hx hb dX1_digest_164 rfl (lv_at hl 1 rfl) ?_
    refine va_get (ci := 1) (v := .int (nI L)) (C := RX1) (T := TX1) (N := 11) hx hb hts kr_wsX1 hown hK hP 0 rfl rfl 7 (by decide) (hts _ kq_549) (fun _ h9 => h9) rfl dX1_digest_165 ?_
    refine lv_icmp_ge (tgt := 265) hx hb dX1_digest_168 (by decide) (fun c168 => ?_) (fun c168 => ?_)
    · have hj2 : j = L := by have := kr_ge (by omega) (by omega) c168; omega
      rw [hj2, Nat.sub_self, he] at hf
      refine lv_lload_n hx hb dX1_digest_265 rfl (lv_at hl 2 rfl) ?_
      exact kr_wL hx hb hr hlocks hP hK hD hS hf dX1_digest_266
    · have hj : j < L := kr_lt (by omega) (by omega) c168
      rw [kr_dls_s hj] at hf
      obtain ⟨hrc, er⟩ := hw.rc hj
      refine lv_lload_n hx hb dX1_digest_171 rfl (lv_at hl 2 rfl) ?_
      refine lv_ldc2 (v := 31) hx hb hown (hts _ kq_808) dX1_digest_172 ?_
      refine lv_lmul hx hb dX1_digest_175 ?_
      refine lv_aload_n hx hb dX1_digest_176 rfl (lv_at hl 1 rfl) ?_
      refine va_get (ci := 1) (v := .ref (a 5)) (C := RX1) (T := TX1) (N := 11) hx hb hts kr_wsX1 hown hK hP 0 rfl rfl 8 (by decide) (hts _ kq_550) (fun _ h9 => h9) rfl dX1_digest_177 ?_
      refine lv_iload_n hx hb dX1_digest_180 rfl (lv_at hl 0 rfl) ?_
      refine kr_ald hx hb hK hP 6 0 rfl rfl j (by omega) (by decide) dX1_digest_181 ?_
      refine lv_i2l (v := (A 5 j).toInt64) hx hb dX1_digest_182 rfl ?_
      refine lv_ladd hx hb dX1_digest_183 ?_
      refine lv_ldc2 (v := 31) hx hb hown (hts _ kq_808) dX1_digest_184 ?_
      refine lv_lmul hx hb dX1_digest_187 ?_
      refine lv_aload_n hx hb dX1_digest_188 rfl (lv_at hl 1 rfl) ?_
      refine lv_iload_n hx hb dX1_digest_189 rfl (lv_at hl 0 rfl) ?_
      refine kr_vI (n := 1) (As := [.int (nI j)]) (rest := [.long (((d2 * 31) + ((A 5 j).toInt64)) * 31)]) ⟨hx, hb, hml, hown, hts⟩ (c_X1_upTo l D cy h a 0 N L A j hw (by omega)) kg_RX1_84 ⟨rfl, rfl⟩ (by decide +kernel) ⟨Nat.le_of_ble_eq_true rfl, Nat.le_of_ble_eq_true rfl⟩ (kr_pv1 hP hK) rfl hl.1 rfl (Nat.le_of_ble_eq_true rfl) dX1_digest_190 ⟨Nat.le_refl _, Nat.le_refl _⟩ (fun r9 e9 => ?_)
      subst e9
      refine lv_i2l (v := (kr_hu A j).toInt64) hx hb dX1_digest_193 rfl ?_
      refine lv_ladd hx hb dX1_digest_194 ?_
      refine lv_ldc2 (v := 31) hx hb hown (hts _ kq_808) dX1_digest_195 ?_
      refine lv_lmul hx hb dX1_digest_198 ?_
      refine lv_aload_n hx hb dX1_digest_199 rfl (lv_at hl 1 rfl) ?_
      refine lv_iload_n hx hb dX1_digest_200 rfl (lv_at hl 0 rfl) ?_
      refine kr_vI (n := 1) (As := [.int (nI j)]) (rest := [.long (((((d2 * 31) + ((A 5 j).toInt64)) * 31) + ((kr_hu A j).toInt64)) * 31)]) ⟨hx, hb, hml, hown, hts⟩ (c_X1_weakest l D cy h a 0 N L A j hw (by omega)) kg_RX1_128 ⟨rfl, rfl⟩ (by decide +kernel) ⟨Nat.le_of_ble_eq_true rfl, Nat.le_of_ble_eq_true rfl⟩ (kr_pv1 hP hK) rfl hl.1 rfl (Nat.le_of_ble_eq_true rfl) dX1_digest_201 ⟨Nat.le_refl _, Nat.le_refl _⟩ (fun r9 e9 => ?_)
      subst e9
      refine lv_i2l (v := (kr_wk A j (kr_rc A j) 0 (-1)).toInt64) hx hb dX1_digest_204 rfl ?_
      refine lv_ladd hx hb dX1_digest_205 ?_
      refine lv_lstore_n (lv' := [(1, .long ((((((d2 * 31) + ((A 5 j).toInt64)) * 31) + ((kr_hu A j).toInt64)) * 31) + ((kr_wk A j (kr_rc A j) 0 (-1)).toInt64))), (3, .int (nI j)), (0, .ref h)]) hx hb dX1_digest_206 rfl hl (by decide) rfl (fun ls hl => ?_)
      refine lv_iconst (v := 0) hx hb dX1_digest_207 (by decide) ?_
      refine lv_istore (lv' := [(4, .int 0), (1, .long ((((((d2 * 31) + ((A 5 j).toInt64)) * 31) + ((kr_hu A j).toInt64)) * 31) + ((kr_wk A j (kr_rc A j) 0 (-1)).toInt64))), (3, .int (nI j)), (0, .ref h)]) hx hb dX1_digest_208 hl (by decide) rfl (fun ls hl => ?_)
      have ih2 := ih
      clear ih
      refine kr_lp (nL := 9) (fun z : Nat × Int64 => [(4, .int (nI z.1)), (1, .long z.2), (3, .int (nI j)), (0, .ref h)]) (fun z => z.1 ≤ kr_rc A j ∧ kr_dp A j (kr_rc A j - z.1) z.1 z.2 = kr_dl A d2 j) (fun z => kr_rc A j - z.1) ?_ (0, (((((d2 * 31) + ((A 5 j).toInt64)) * 31) + ((kr_hu A j).toInt64)) * 31) + ((kr_wk A j (kr_rc A j) 0 (-1)).toInt64)) ⟨Nat.zero_le _, rfl⟩ (lv_sub hl [0, 1, 2, 3] rfl)
      clear hl
      intro z ls hI hl ih
      obtain ⟨k, d3⟩ := z
      have hl : lv_has ls 9 [(4, .int (nI k)), (1, .long d3), (3, .int (nI j)), (0, .ref h)] := hl
      obtain ⟨hk0, hg⟩ : k ≤ kr_rc A j ∧ kr_dp A j (kr_rc A j - k) k d3 = kr_dl A d2 j := hI
      refine lv_iload hx hb dX1_digest_210 (lv_at hl 0 rfl) ?_
      refine lv_aload_n hx hb dX1_digest_212 rfl (lv_at hl 3 rfl) ?_
      refine va_get (ci := 1) (v := .ref (a 5)) (C := RX1) (T := TX1) (N := 11) hx hb hts kr_wsX1 hown hK hP 0 rfl rfl 8 (by decide) (hts _ kq_550) (fun _ h9 => h9) rfl dX1_digest_213 ?_
      refine lv_iload_n hx hb dX1_digest_216 rfl (lv_at hl 2 rfl) ?_
      refine kr_ald hx hb hK hP 6 0 rfl rfl j (by omega) (by decide) dX1_digest_217 ?_
      rw [er]
      refine lv_icmp_ge (tgt := 259) hx hb dX1_digest_218 (by decide) (fun c218 => ?_) (fun c218 => ?_)
      · have hk2 : k = kr_rc A j := by have := kr_ge (by omega) (by omega) c218; omega
        rw [hk2, Nat.sub_self] at hg
        have hg : d3 = kr_dl A d2 j := hg
        subst hg
        refine lv_iinc (v := nI (j + 1)) (lv' := [(3, .int (nI (j + 1))), (4, .int (nI k)), (1, .long (kr_dl A d2 j)), (0, .ref h)]) hx hb dX1_digest_259 hl (k := 2) rfl (kr_inc _) (by decide) rfl (fun ls hl => ?_)
        refine lv_goto (tgt := 163) hx hb dX1_digest_262 (by decide) ?_
        exact ih2 (j + 1, kr_dl A d2 j) ls ⟨by omega, hf⟩ (by show L - (j + 1) < L - j; omega) (lv_sub hl [0, 3, 2] rfl)
      · have hk : k < kr_rc A j := kr_lt (by omega) (by omega) c218
        rw [kr_dp_s hk] at hg
        refine lv_lload_n hx hb dX1_digest_221 rfl (lv_at hl 1 rfl) ?_
        refine lv_ldc2 (v := 31) hx hb hown (hts _ kq_808) dX1_digest_222 ?_
        refine lv_lmul hx hb dX1_digest_225 ?_
        refine lv_aload_n hx hb dX1_digest_226 rfl (lv_at hl 3 rfl) ?_
        refine va_get (ci := 1) (v := .ref (a 6)) (C := RX1) (T := TX1) (N := 11) hx hb hts kr_wsX1 hown hK hP 0 rfl rfl 10 (by decide) (hts _ kq_552) (fun _ h9 => h9) rfl dX1_digest_227 ?_
        refine lv_iconst (v := 5) hx hb dX1_digest_230 (by decide) ?_
        refine lv_iload_n hx hb dX1_digest_231 rfl (lv_at hl 2 rfl) ?_
        refine kr_imulN hx hb 5 j dX1_digest_232 ?_
        refine lv_iload hx hb dX1_digest_233 (lv_at hl 0 rfl) ?_
        refine kr_iaddN hx hb (5 * j) k dX1_digest_235 ?_
        refine kr_ald hx hb hK hP 7 0 rfl rfl ((5 * j) + k) (by omega) (by decide) dX1_digest_236 ?_
        refine lv_i2l (v := (A 6 ((5 * j) + k)).toInt64) hx hb dX1_digest_237 rfl ?_
        refine lv_ladd hx hb dX1_digest_238 ?_
        refine lv_ldc2 (v := 31) hx hb hown (hts _ kq_808) dX1_digest_239 ?_
        refine lv_lmul hx hb dX1_digest_242 ?_
        refine lv_aload_n hx hb dX1_digest_243 rfl (lv_at hl 3 rfl) ?_
        refine lv_iload_n hx hb dX1_digest_244 rfl (lv_at hl 2 rfl) ?_
        refine lv_iload hx hb dX1_digest_245 (lv_at hl 0 rfl) ?_
        refine kr_vI (n := 2) (As := [.int (nI j), .int (nI k)]) (rest := [.long (((d3 * 31) + ((A 6 ((5 * j) + k)).toInt64)) * 31)]) ⟨hx, hb, hml, hown, hts⟩ (c_X1_now l D cy h a 0 N L A j k hw (by omega) (by omega)) kg_RX1_81 ⟨rfl, rfl⟩ (by decide +kernel) ⟨Nat.le_of_ble_eq_true rfl, Nat.le_of_ble_eq_true rfl⟩ (kr_pv1 hP hK) rfl hl.1 rfl (Nat.le_of_ble_eq_true rfl) dX1_digest_247 ⟨Nat.le_refl _, Nat.le_refl _⟩ (fun r9 e9 => ?_)
        subst e9
        refine lv_i2l (v := (kr_nw A j k).toInt64) hx hb dX1_digest_250 rfl ?_
        refine lv_ladd hx hb dX1_digest_251 ?_
        refine lv_lstore_n (lv' := [(1, .long ((((d3 * 31) + ((A 6 ((5 * j) + k)).toInt64)) * 31) + ((kr_nw A j k).toInt64))), (4, .int (nI k)), (3, .int (nI j)), (0, .ref h)]) hx hb dX1_digest_252 rfl hl (by decide) rfl (fun ls hl => ?_)
        refine lv_iinc (v := nI (k + 1)) (lv' := [(4, .int (nI (k + 1))), (1, .long ((((d3 * 31) + ((A 6 ((5 * j) + k)).toInt64)) * 31) + ((kr_nw A j k).toInt64))), (3, .int (nI j)), (0, .ref h)]) hx hb dX1_digest_253 hl (k := 1) rfl (kr_inc _) (by decide) rfl (fun ls hl => ?_)
        refine lv_goto (tgt := 210) hx hb dX1_digest_256 (by decide) ?_
        exact ih (k + 1, (((d3 * 31) + ((A 6 ((5 * j) + k)).toInt64)) * 31) + ((kr_nw A j k).toInt64)) ls ⟨by omega, hg⟩ (by show kr_rc A j - (k + 1) < kr_rc A j - k; omega) (lv_sub hl [0, 1, 2, 3] rfl)
  · have hi : i < N := kr_lt (by omega) (by omega) c42
    rw [kr_dks_s hi] at he
    refine lv_bipush (v := 7) hx hb dX1_digest_45 (by decide) ?_
    refine kr_newI hx hb hts hK hP hD hS hA 7 (by decide) rfl (by decide) (show i + 1 ≤ 16 by omega) (show 7 * i + 7 ≤ 112 by omega) dX1_digest_47 (fun q7 H hP hD hS => ?_)
    have hP : va_P D vwCl (kr_W1 cy h a 0 N L A ++ [(q7, .inl (cy, 7, .inl (fun _ => 0)))]) H := hP
    have hD : va_D AA (kr_W1 cy h a 0 N L A ++ [(q7, .inl (cy, 7, .inl (fun _ => 0)))]) := hD
    refine lv_dup hx hb dX1_digest_49 rfl ?_
    refine lv_iconst (v := 0) hx hb dX1_digest_50 (by decide) ?_
    refine lv_aload_n hx hb dX1_digest_51 rfl (lv_at hl 0 rfl) ?_
    refine va_get (ci := 1) (v := .ref (a 0)) (C := RX1) (T := TX1) (N := 11) hx hb hts kr_wsX1 hown hK hP 0 rfl rfl 2 (by decide) (hts _ kq_544) (fun _ h9 => h9) rfl dX1_digest_52 ?_
    refine lv_iload_n hx hb dX1_digest_55 rfl (lv_at hl 2 rfl) ?_
    refine kr_ald hx hb hK hP 1 0 rfl rfl i (by omega) (by decide) dX1_digest_56 ?_
    refine kr_ast hx hb hK hP hD hS 9 0 rfl rfl 0 (by omega) (by decide) dX1_digest_57 (fun H locs hP hD hS => ?_)
    have hP : va_P D vwCl (kr_W1 cy h a 0 N L A ++ [(q7, .inl (cy, 7, .inl (upd (fun _ => 0) 0 (A 0 i))))]) H := hP
    have hD : va_D AA (kr_W1 cy h a 0 N L A ++ [(q7, .inl (cy, 7, .inl (upd (fun _ => 0) 0 (A 0 i))))]) := hD
    refine lv_dup hx hb dX1_digest_58 rfl ?_
    refine lv_iconst (v := 1) hx hb dX1_digest_59 (by decide) ?_
    refine lv_aload_n hx hb dX1_digest_60 rfl (lv_at hl 0 rfl) ?_
    refine va_get (ci := 1) (v := .ref (a 1)) (C := RX1) (T := TX1) (N := 11) hx hb hts kr_wsX1 hown hK hP 0 rfl rfl 3 (by decide) (hts _ kq_545) (fun _ h9 => h9) rfl dX1_digest_61 ?_
    refine lv_iload_n hx hb dX1_digest_64 rfl (lv_at hl 2 rfl) ?_
    refine kr_ald hx hb hK hP 2 0 rfl rfl i (by omega) (by decide) dX1_digest_65 ?_
    refine kr_ast hx hb hK hP hD hS 9 0 rfl rfl 1 (by omega) (by decide) dX1_digest_66 (fun H locs hP hD hS => ?_)
    have hP : va_P D vwCl (kr_W1 cy h a 0 N L A ++ [(q7, .inl (cy, 7, .inl (upd (upd (fun _ => 0) 0 (A 0 i)) 1 (A 1 i))))]) H := hP
    have hD : va_D AA (kr_W1 cy h a 0 N L A ++ [(q7, .inl (cy, 7, .inl (upd (upd (fun _ => 0) 0 (A 0 i)) 1 (A 1 i))))]) := hD
    refine lv_dup hx hb dX1_digest_67 rfl ?_
    refine lv_iconst (v := 2) hx hb dX1_digest_68 (by decide) ?_
    refine lv_aload_n hx hb dX1_digest_69 rfl (lv_at hl 0 rfl) ?_
    refine va_get (ci := 1) (v := .ref (a 2)) (C := RX1) (T := TX1) (N := 11) hx hb hts kr_wsX1 hown hK hP 0 rfl rfl 4 (by decide) (hts _ kq_546) (fun _ h9 => h9) rfl dX1_digest_70 ?_
    refine lv_iload_n hx hb dX1_digest_73 rfl (lv_at hl 2 rfl) ?_
    refine kr_ald hx hb hK hP 3 0 rfl rfl i (by omega) (by decide) dX1_digest_74 ?_
    refine kr_ast hx hb hK hP hD hS 9 0 rfl rfl 2 (by omega) (by decide) dX1_digest_75 (fun H locs hP hD hS => ?_)
    have hP : va_P D vwCl (kr_W1 cy h a 0 N L A ++ [(q7, .inl (cy, 7, .inl (upd (upd (upd (fun _ => 0) 0 (A 0 i)) 1 (A 1 i)) 2 (A 2 i))))]) H := hP
    have hD : va_D AA (kr_W1 cy h a 0 N L A ++ [(q7, .inl (cy, 7, .inl (upd (upd (upd (fun _ => 0) 0 (A 0 i)) 1 (A 1 i)) 2 (A 2 i))))]) := hD
    refine lv_dup hx hb dX1_digest_76 rfl ?_
    refine lv_iconst (v := 3) hx hb dX1_digest_77 (by decide) ?_
    refine lv_aload_n hx hb dX1_digest_78 rfl (lv_at hl 0 rfl) ?_
    refine va_get (ci := 1) (v := .ref (a 3)) (C := RX1) (T := TX1) (N := 11) hx hb hts kr_wsX1 hown hK hP 0 rfl rfl 5 (by decide) (hts _ kq_547) (fun _ h9 => h9) rfl dX1_digest_79 ?_
    refine lv_iload_n hx hb dX1_digest_82 rfl (lv_at hl 2 rfl) ?_
    refine kr_ald hx hb hK hP 4 0 rfl rfl i (by omega) (by decide) dX1_digest_83 ?_
    refine kr_ast hx hb hK hP hD hS 9 0 rfl rfl 3 (by omega) (by decide) dX1_digest_84 (fun H locs hP hD hS => ?_)
    have hP : va_P D vwCl (kr_W1 cy h a 0 N L A ++ [(q7, .inl (cy, 7, .inl (upd (upd (upd (upd (fun _ => 0) 0 (A 0 i)) 1 (A 1 i)) 2 (A 2 i)) 3 (A 3 i))))]) H := hP
    have hD : va_D AA (kr_W1 cy h a 0 N L A ++ [(q7, .inl (cy, 7, .inl (upd (upd (upd (upd (fun _ => 0) 0 (A 0 i)) 1 (A 1 i)) 2 (A 2 i)) 3 (A 3 i))))]) := hD
    refine lv_dup hx hb dX1_digest_85 rfl ?_
    refine lv_iconst (v := 4) hx hb dX1_digest_86 (by decide) ?_
    refine lv_aload_n hx hb dX1_digest_87 rfl (lv_at hl 0 rfl) ?_
    refine va_get (ci := 1) (v := .ref (a 4)) (C := RX1) (T := TX1) (N := 11) hx hb hts kr_wsX1 hown hK hP 0 rfl rfl 6 (by decide) (hts _ kq_548) (fun _ h9 => h9) rfl dX1_digest_88 ?_
    refine lv_iload_n hx hb dX1_digest_91 rfl (lv_at hl 2 rfl) ?_
    refine kr_ald hx hb hK hP 5 0 rfl rfl i (by omega) (by decide) dX1_digest_92 ?_
    refine kr_ast hx hb hK hP hD hS 9 0 rfl rfl 4 (by omega) (by decide) dX1_digest_93 (fun H locs hP hD hS => ?_)
    have hP : va_P D vwCl (kr_W1 cy h a 0 N L A ++ [(q7, .inl (cy, 7, .inl (upd (upd (upd (upd (upd (fun _ => 0) 0 (A 0 i)) 1 (A 1 i)) 2 (A 2 i)) 3 (A 3 i)) 4 (A 4 i))))]) H := hP
    have hD : va_D AA (kr_W1 cy h a 0 N L A ++ [(q7, .inl (cy, 7, .inl (upd (upd (upd (upd (upd (fun _ => 0) 0 (A 0 i)) 1 (A 1 i)) 2 (A 2 i)) 3 (A 3 i)) 4 (A 4 i))))]) := hD
    refine lv_dup hx hb dX1_digest_94 rfl ?_
    refine lv_iconst (v := 5) hx hb dX1_digest_95 (by decide) ?_
    refine lv_aload_n hx hb dX1_digest_96 rfl (lv_at hl 0 rfl) ?_
    refine lv_iload_n hx hb dX1_digest_97 rfl (lv_at hl 2 rfl) ?_
    refine kr_vI (n := 1) (As := [.int (nI i)]) (rest := [.int 5, .ref q7, .ref q7]) ⟨hx, hb, hml, hown, hts⟩ (c_X1_rank l D cy h a 0 N L A i (by omega) (by omega)) kg_RX1_116 ⟨rfl, rfl⟩ (by decide +kernel) ⟨Nat.le_of_ble_eq_true rfl, Nat.le_of_ble_eq_true rfl⟩ (kr_pv1 (hP.sub (ws' := kr_W1 cy h a 0 N L A) [0, 1, 2, 3, 4, 5, 6, 7, 8] rfl) hK) rfl hl.1 rfl (Nat.le_of_ble_eq_true rfl) dX1_digest_98 ⟨show i + 1 ≤ 16 by omega, show 7 * i + 7 ≤ 112 by omega⟩ (fun r9 e9 => ?_)
    subst e9
    refine kr_ast hx hb hK hP hD hS 9 0 rfl rfl 5 (by omega) (by decide) dX1_digest_101 (fun H locs hP hD hS => ?_)
    have hP : va_P D vwCl (kr_W1 cy h a 0 N L A ++ [(q7, .inl (cy, 7, .inl (upd (upd (upd (upd (upd (upd (fun _ => 0) 0 (A 0 i)) 1 (A 1 i)) 2 (A 2 i)) 3 (A 3 i)) 4 (A 4 i)) 5 (nI (kr_rk A i N)))))]) H := hP
    have hD : va_D AA (kr_W1 cy h a 0 N L A ++ [(q7, .inl (cy, 7, .inl (upd (upd (upd (upd (upd (upd (fun _ => 0) 0 (A 0 i)) 1 (A 1 i)) 2 (A 2 i)) 3 (A 3 i)) 4 (A 4 i)) 5 (nI (kr_rk A i N)))))]) := hD
    refine lv_dup hx hb dX1_digest_102 rfl ?_
    refine lv_bipush (v := 6) hx hb dX1_digest_103 (by decide) ?_
    refine lv_aload_n hx hb dX1_digest_105 rfl (lv_at hl 0 rfl) ?_
    refine lv_iload_n hx hb dX1_digest_106 rfl (lv_at hl 2 rfl) ?_
    refine kr_vI (n := 1) (As := [.int (nI i)]) (rest := [.int 6, .ref q7, .ref q7]) ⟨hx, hb, hml, hown, hts⟩ (c_X1_apart l D cy h a 0 N L A i hw (by omega)) kg_RX1_125 ⟨rfl, rfl⟩ (by decide +kernel) ⟨Nat.le_of_ble_eq_true rfl, Nat.le_of_ble_eq_true rfl⟩ (kr_pv1 (hP.sub (ws' := kr_W1 cy h a 0 N L A) [0, 1, 2, 3, 4, 5, 6, 7, 8] rfl) hK) rfl hl.1 rfl (Nat.le_of_ble_eq_true rfl) dX1_digest_107 ⟨show i + 1 ≤ 16 by omega, show 7 * i + 7 ≤ 112 by omega⟩ (fun r9 e9 => ?_)
    subst e9
    refine kr_ast hx hb hK hP hD hS 9 0 rfl rfl 6 (by omega) (by decide) dX1_digest_110 (fun H locs hP hD hS => ?_)
    have hP : va_P D vwCl (kr_W1 cy h a 0 N L A ++ [(q7, .inl (cy, 7, .inl (upd (upd (upd (upd (upd (upd (upd (fun _ => 0) 0 (A 0 i)) 1 (A 1 i)) 2 (A 2 i)) 3 (A 3 i)) 4 (A 4 i)) 5 (nI (kr_rk A i N))) 6 (kr_fa A 16 (nI i) 0))))]) H := hP
    have hD : va_D AA (kr_W1 cy h a 0 N L A ++ [(q7, .inl (cy, 7, .inl (upd (upd (upd (upd (upd (upd (upd (fun _ => 0) 0 (A 0 i)) 1 (A 1 i)) 2 (A 2 i)) 3 (A 3 i)) 4 (A 4 i)) 5 (nI (kr_rk A i N))) 6 (kr_fa A 16 (nI i) 0))))]) := hD
    refine lv_astore (lv' := [(4, .ref q7), (0, .ref h), (1, .long d), (3, .int (nI i))]) hx hb dX1_digest_111 hl (by decide) rfl (fun ls hl => ?_)
    obtain ⟨G, hG⟩ : ∃ G : Nat → Int32, G = upd (upd (upd (upd (upd (upd (upd (fun _ => 0) 0 (A 0 i)) 1 (A 1 i)) 2 (A 2 i)) 3 (A 3 i)) 4 (A 4 i)) 5 (nI (kr_rk A i N))) 6 (kr_fa A 16 (nI i) 0) := ⟨_, rfl⟩
    rw [← hG] at hP hD
    have hP : va_P D vwCl (kr_W1 cy h a 0 N L A ++ [(q7, .inl (cy, 7, .inl (G)))]) H := hP
    have hD : va_D AA (kr_W1 cy h a 0 N L A ++ [(q7, .inl (cy, 7, .inl (G)))]) := hD
    have hdk : kr_df G d 7 = kr_dk A N d i := by rw [hG]; rfl
    refine lv_aload hx hb dX1_digest_113 (lv_at hl 0 rfl) ?_
    refine lv_astore (lv' := [(5, .ref q7), (4, .ref q7), (0, .ref h), (1, .long d), (3, .int (nI i))]) hx hb dX1_digest_115 hl (by decide) rfl (fun ls hl => ?_)
    refine lv_aload hx hb dX1_digest_117 (lv_at hl 0 rfl) ?_
    refine va_alen (v := 7) hx hb hK hP 9 0 rfl rfl rfl dX1_digest_119 ?_
    refine lv_istore (lv' := [(6, .int 7), (5, .ref q7), (4, .ref q7), (0, .ref h), (1, .long d), (3, .int (nI i))]) hx hb dX1_digest_120 hl (by decide) rfl (fun ls hl => ?_)
    refine lv_iconst (v := 0) hx hb dX1_digest_122 (by decide) ?_
    refine lv_istore (lv' := [(7, .int 0), (6, .int 7), (5, .ref q7), (4, .ref q7), (0, .ref h), (1, .long d), (3, .int (nI i))]) hx hb dX1_digest_123 hl (by decide) rfl (fun ls hl => ?_)
    have ih2 := ih
    clear ih
    refine kr_lp (nL := 9) (fun z : Nat × Int64 => [(7, .int (nI z.1)), (6, .int 7), (5, .ref q7), (4, .ref q7), (0, .ref h), (1, .long z.2), (3, .int (nI i))]) (fun z => z.1 ≤ 7 ∧ z.2 = kr_df G d z.1) (fun z => 7 - z.1) ?_ (0, d) ⟨Nat.zero_le _, rfl⟩ (lv_sub hl [0, 1, 2, 3, 4, 5, 6] rfl)
    clear hl
    intro z ls hI hl ih
    obtain ⟨j, d4⟩ := z
    have hl : lv_has ls 9 [(7, .int (nI j)), (6, .int 7), (5, .ref q7), (4, .ref q7), (0, .ref h), (1, .long d4), (3, .int (nI i))] := hl
    obtain ⟨hj0, hg⟩ : j ≤ 7 ∧ d4 = kr_df G d j := hI
    refine lv_iload hx hb dX1_digest_125 (lv_at hl 0 rfl) ?_
    refine lv_iload hx hb dX1_digest_127 (lv_at hl 1 rfl) ?_
    refine lv_icmp_ge (tgt := 155) hx hb dX1_digest_129 (by decide) (fun c129 => ?_) (fun c129 => ?_)
    · have hj2 : j = 7 := by have := kr_ge (by omega) (by omega) (show nI 7 ≤ nI j from c129); omega
      rw [hj2, hdk] at hg
      subst hg
      refine lv_iinc (v := nI (i + 1)) (lv' := [(3, .int (nI (i + 1))), (7, .int (nI j)), (6, .int 7), (5, .ref q7), (4, .ref q7), (0, .ref h), (1, .long (kr_dk A N d i))]) hx hb dX1_digest_155 hl (k := 6) rfl (kr_inc _) (by decide) rfl (fun ls hl => ?_)
      refine lv_goto (tgt := 37) hx hb dX1_digest_158 (by decide) ?_
      exact ih2 (i + 1, kr_dk A N d i) _ _ ls ⟨⟨by omega, he⟩, hP.sub [0, 1, 2, 3, 4, 5, 6, 7, 8] rfl, hD.sub [0, 1, 2, 3, 4, 5, 6, 7, 8] (by decide) rfl, hS⟩ (by show N - (i + 1) < N - i; omega) (lv_sub hl [5, 6, 0] rfl)
    · have hj : j < 7 := kr_lt (by omega) (by omega) (show ¬ nI 7 ≤ nI j from c129)
      refine lv_aload hx hb dX1_digest_132 (lv_at hl 2 rfl) ?_
      refine lv_iload hx hb dX1_digest_134 (lv_at hl 0 rfl) ?_
      refine kr_ald hx hb hK hP 9 0 rfl rfl j (by omega) (by decide) dX1_digest_136 ?_
      refine lv_istore (lv' := [(8, .int (G j)), (7, .int (nI j)), (6, .int 7), (5, .ref q7), (4, .ref q7), (0, .ref h), (1, .long d4), (3, .int (nI i))]) hx hb dX1_digest_137 hl (by decide) rfl (fun ls hl => ?_)
      refine lv_lload_n hx hb dX1_digest_139 rfl (lv_at hl 6 rfl) ?_
      refine lv_ldc2 (v := 31) hx hb hown (hts _ kq_808) dX1_digest_140 ?_
      refine lv_lmul hx hb dX1_digest_143 ?_
      refine lv_iload hx hb dX1_digest_144 (lv_at hl 0 rfl) ?_
      refine lv_i2l (v := (G j).toInt64) hx hb dX1_digest_146 rfl ?_
      refine lv_ladd hx hb dX1_digest_147 ?_
      refine lv_lstore_n (lv' := [(1, .long ((d4 * 31) + ((G j).toInt64))), (8, .int (G j)), (7, .int (nI j)), (6, .int 7), (5, .ref q7), (4, .ref q7), (0, .ref h), (3, .int (nI i))]) hx hb dX1_digest_148 rfl hl (by decide) rfl (fun ls hl => ?_)
      refine lv_iinc (v := nI (j + 1)) (lv' := [(7, .int (nI (j + 1))), (1, .long ((d4 * 31) + ((G j).toInt64))), (8, .int (G j)), (6, .int 7), (5, .ref q7), (4, .ref q7), (0, .ref h), (3, .int (nI i))]) hx hb dX1_digest_149 hl (k := 2) rfl (kr_inc _) (by decide) rfl (fun ls hl => ?_)
      refine lv_goto (tgt := 125) hx hb dX1_digest_152 (by decide) ?_
      exact ih (j + 1, (d4 * 31) + ((G j).toInt64)) ls ⟨by omega, by rw [hg]; rfl⟩ (by show 7 - (j + 1) < 7 - j; omega) (lv_sub hl [0, 3, 4, 5, 6, 1, 7] rfl)
