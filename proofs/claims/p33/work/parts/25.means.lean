section KRD
variable {p : Program} {l : Launch} {e : Env} {R : Room} {s : State} {m : MethodId} {args : Array Value} {below : List Frame} {meth : Method} {c : Code} {H : Heap} {locs : List Loc} {cells slots : Nat} {cc : ByteArray} {pc : Nat} {ls : Array Slot} {D : va_G} {ws : va_W} {cy : ClassId} {AA : Nat → Prop}
theorem kr_eD {post : UInt64 → Prop} {v : UInt64} (hx : p.tables.exec = Jvm.exec) (hb : c.code = cc) (hr : meth.sig.returnType = some .double) (hlocks : meth.locks = false) (hH : H = s.heap) (hp : post v) (hdg : decode cc pc = .ok (.dreturn, 1)) : W p l e R s m args below meth c H [] cells slots (MQ below (vp_Sd post) args s cells slots (fun _ => False)) (F0 m pc ls [.double v]) := W.dret hx hb hr (fun t ht _ => ⟨v, rfl, hp, ht.trans hH⟩) (fun q hq => absurd hq List.not_mem_nil) hdg hlocks
theorem kr_wD {post : UInt64 → Prop} {v : UInt64} (hx : p.tables.exec = Jvm.exec) (hb : c.code = cc) (hr : meth.sig.returnType = some .double) (hlocks : meth.locks = false) (hP : va_P D vwCl ws H) (hK : va_K D vwCl [(cy, .int)] s) (hD : va_D AA ws) (hS : va_S AA s.heap H locs) (hp : post v) (hdg : decode cc pc = .ok (.dreturn, 1)) : W p l e R s m args below meth c H locs cells slots (MQ below (va_Qd (fun r (_ : Unit) => post r) (fun _ t => kr_Rq D ws cy AA t) AA) args s cells slots AA) (F0 m pc ls [.double v]) := W.dret hx hb hr (fun t ht hW => ⟨⟨v, (), rfl, hp, by rw [ht]; exact hP, va_K.moved hW.alike hK, hD⟩, hS.F ht⟩) hS.2.2 hdg hlocks
end KRD
/-- d, worked on with the first n words of a row -/
def kr_df (G : Nat → Int32) (d : Int64) : Nat → Int64
  | 0 => d
  | n + 1 => kr_dw (kr_df G d n) (G n)
set_option maxHeartbeats 4000000 in
set_option maxRecDepth 100000 in
theorem c_X0_meanEfficiency (l : Launch) (D : va_G) (cy : ClassId) (h : Nat) (a : Nat → Nat) (N L : Nat) (A : Nat → Nat → Int32) (hN : N ≤ 16) (hwe : kr_we N A) : Met l yX0_meanEfficiency (Cond.code yX0_meanEfficiency cX0_meanEfficiency 3 (some .double) :: kr_all) ({ frames := 0, cells := 0, slots := 0, locals := 0 }) (va_Pc [.ref h] (kr_R D (kr_W0 cy h a N L A) cy)) (vp_Sd (fun r => r = kr_m2 N A)) 0 0 (fun _ => False) := by
  refine kr_of (by decide) (Nat.le_of_ble_eq_true rfl) ?_
  intro p e s m below meth c ls hx hb hml hr hts hown hlocks hin hv hl
  obtain ⟨hP, hK⟩ := hv
  have hown : s.vm.findClass RX0 = some m.cls := hown
  have hl : lv_has ls 3 [(0, .ref h)] := hl
  refine lv_aload_n hx hb dX0_meanEfficiency_0 rfl (lv_at hl 0 rfl) ?_
  refine va_get (ci := 0) (v := .int (nI N)) (C := RX0) (T := TX0) (N := 10) hx hb hts kr_wsX0 hown hK hP 0 rfl rfl 5 (by decide) (hts _ kq_47) (fun _ h9 => h9) rfl dX0_meanEfficiency_1 ?_
  refine lv_if_ne (tgt := 9) hx hb dX0_meanEfficiency_4 (by decide) (fun c4 => ?_) (fun c4 => ?_)
  · have h0 : ¬ N = 0 := fun w => c4 (by rw [w]; rfl)
    refine lv_iconst (v := 0) hx hb dX0_meanEfficiency_9 (by decide) ?_
    refine lv_istore_n (lv' := [(1, .int 0), (0, .ref h)]) hx hb dX0_meanEfficiency_10 rfl hl (by decide) rfl (fun ls hl => ?_)
    refine lv_iconst (v := 0) hx hb dX0_meanEfficiency_11 (by decide) ?_
    refine lv_istore_n (lv' := [(2, .int 0), (1, .int 0), (0, .ref h)]) hx hb dX0_meanEfficiency_12 rfl hl (by decide) rfl (fun ls hl => ?_)
    refine kr_lp (nL := 3) (fun z : Nat => [(2, .int (nI z)), (1, .int (kr_sm A z)), (0, .ref h)]) (fun z => z ≤ N) (fun z => N - z) ?_ (0) (Nat.zero_le _) (lv_sub hl [0, 1, 2] rfl)
    clear hl
    intro z ls hI hl ih
    obtain ⟨i, rfl⟩ : ∃ y, y = z := ⟨_, rfl⟩
    have hl : lv_has ls 3 [(2, .int (nI i)), (1, .int (kr_sm A i)), (0, .ref h)] := hl
    obtain hi0 : i ≤ N := hI
    refine lv_iload_n hx hb dX0_meanEfficiency_13 rfl (lv_at hl 0 rfl) ?_
    refine lv_aload_n hx hb dX0_meanEfficiency_14 rfl (lv_at hl 2 rfl) ?_
    refine va_get (ci := 0) (v := .int (nI N)) (C := RX0) (T := TX0) (N := 10) hx hb hts kr_wsX0 hown hK hP 0 rfl rfl 5 (by decide) (hts _ kq_47) (fun _ h9 => h9) rfl dX0_meanEfficiency_15 ?_
    refine lv_icmp_ge (tgt := 36) hx hb dX0_meanEfficiency_18 (by decide) (fun c18 => ?_) (fun c18 => ?_)
    · have hi2 : i = N := by have := kr_ge (by omega) (by omega) c18; omega
      refine lv_iload_n hx hb dX0_meanEfficiency_36 rfl (lv_at hl 1 rfl) ?_
      refine lv_i2d hx hb dX0_meanEfficiency_37 ?_
      refine lv_aload_n hx hb dX0_meanEfficiency_38 rfl (lv_at hl 2 rfl) ?_
      refine va_get (ci := 0) (v := .int (nI N)) (C := RX0) (T := TX0) (N := 10) hx hb hts kr_wsX0 hown hK hP 0 rfl rfl 5 (by decide) (hts _ kq_47) (fun _ h9 => h9) rfl dX0_meanEfficiency_39 ?_
      refine lv_i2d hx hb dX0_meanEfficiency_42 ?_
      refine lv_ddiv hx hb dX0_meanEfficiency_43 (by have h9 := kr_m2_vf hN hwe; unfold kr_m2 at h9; rw [if_neg h0] at h9; rw [hi2]; exact h9) ?_
      exact kr_eD hx hb hr hlocks rfl (by rw [hi2]; exact (if_neg h0).symm) dX0_meanEfficiency_44
    · have hi : i < N := kr_lt (by omega) (by omega) c18
      refine lv_iload_n hx hb dX0_meanEfficiency_21 rfl (lv_at hl 1 rfl) ?_
      refine lv_aload_n hx hb dX0_meanEfficiency_22 rfl (lv_at hl 2 rfl) ?_
      refine va_get (ci := 0) (v := .ref (a 1)) (C := RX0) (T := TX0) (N := 10) hx hb hts kr_wsX0 hown hK hP 0 rfl rfl 1 (by decide) (hts _ kq_43) (fun _ h9 => h9) rfl dX0_meanEfficiency_23 ?_
      refine lv_iload_n hx hb dX0_meanEfficiency_26 rfl (lv_at hl 0 rfl) ?_
      refine kr_ald hx hb hK hP 2 0 rfl rfl i (by omega) (by decide) dX0_meanEfficiency_27 ?_
      refine lv_iadd hx hb dX0_meanEfficiency_28 ?_
      refine lv_istore_n (lv' := [(1, .int ((kr_sm A i) + (A 1 i))), (2, .int (nI i)), (0, .ref h)]) hx hb dX0_meanEfficiency_29 rfl hl (by decide) rfl (fun ls hl => ?_)
      refine lv_iinc (v := nI (i + 1)) (lv' := [(2, .int (nI (i + 1))), (1, .int ((kr_sm A i) + (A 1 i))), (0, .ref h)]) hx hb dX0_meanEfficiency_30 hl (k := 1) rfl (kr_inc _) (by decide) rfl (fun ls hl => ?_)
      refine lv_goto (tgt := 13) hx hb dX0_meanEfficiency_33 (by decide) ?_
      exact ih (i + 1) ls (show i + 1 ≤ N by omega) (by show N - (i + 1) < N - i; omega) (lv_sub hl [0, 1, 2] rfl)
  · have h0 : N = 0 := (nI_eq (a := N) (b := 0) (by omega) (by decide)).mp c4
    refine lv_dconst0 hx hb dX0_meanEfficiency_7 ?_
    exact kr_eD hx hb hr hlocks rfl (if_pos h0).symm dX0_meanEfficiency_8
