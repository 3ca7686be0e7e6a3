set_option maxHeartbeats 4000000 in
set_option maxRecDepth 100000 in
theorem c_X0_init (l : Launch) (D : va_G) (h sz : Nat) : Met l yX0_init (Cond.code yX0_init cX0_init 1 none :: kr_all) ({ frames := 1, cells := 8, slots := 146, locals := 12 }) (va_Pc [.ref h] (fun U => U.heap.size = sz ∧ va_P D vwCl [(h, .inr (0, [.null, .null, .null, .null, .null, .int 0, .null, .int 0, .null, .null]))] U.heap ∧ va_K D vwCl [] U ∧ va_D (fun _ => True) [(h, .inr (0, [.null, .null, .null, .null, .null, .int 0, .null, .int 0, .null, .null]))])) (va_Qv (fun (_ : ClassId × (Nat → Nat)) => True) (fun u t => va_P D vwCl (kr_W0 u.1 h u.2 0 0 (fun _ _ => 0)) t.heap ∧ va_K D vwCl [(u.1, .int)] t ∧ va_D (va_A [(h, .inr (0, [.null, .null, .null, .null, .null, .int 0, .null, .int 0, .null, .null]))] sz) (kr_W0 u.1 h u.2 0 0 (fun _ _ => 0))) (va_A [(h, .inr (0, [.null, .null, .null, .null, .null, .int 0, .null, .int 0, .null, .null]))] sz)) 8 146 (va_A [(h, .inr (0, [.null, .null, .null, .null, .null, .int 0, .null, .int 0, .null, .null]))] sz) := by
  refine Met.ofW (cc := cX0_init) (maxL := 1) (ret := none) (by decide) rfl ?_
  intro p e s m args below meth c s₁ B hml hv
  obtain ⟨rfl, hsz, hP, hK, hD0⟩ := hv
  have hx := B.exec
  have hb := B.bytes
  have hr := B.returns
  have hts0 := atoms_spec (ws := Cond.code yX0_init cX0_init 1 none :: kr_all) B.pre
  have hts : ∀ w ∈ kr_all, w.before #[.ref h] s = true := fun w hw => hts0 w (List.mem_cons_of_mem _ hw)
  have hown : s.vm.findClass RX0 = some m.cls := findClass_of_methodNamed B.named
  have hlocks := B.notSynchronized
  have hin : meth.name = "<init>" := (name_of_methodNamed B.named B.method).1
  subst hsz
  have hD := hD0.self (sz := s.heap.size)
  generalize hAe : va_A [(h, .inr (0, [.null, .null, .null, .null, .null, .int 0, .null, .int 0, .null, .null]))] s.heap.size = AA at hD ⊢
  have hA : ∀ q : Nat, s.heap.size ≤ q → AA q := fun q h => by rw [← hAe]; exact Or.inr h
  have hS : va_S AA s.heap s.heap [] := va_S.rf
  have hP : va_P D vwCl [(h, .inr (0, [.null, .null, .null, .null, .null, .int 0, .null, .int 0, .null, .null]))] s.heap := hP
  have hl := lv_entry ([.ref h]) (n := 1) (Nat.le_of_ble_eq_true rfl)
  rw [lg_entry_eq]
  generalize (lg_sl ([.ref h]) ++ List.replicate (1 - (lg_sl ([.ref h])).length) Slot.unset).toArray = ls at hl ⊢
  have hl : lv_has ls 1 [(0, .ref h)] := hl
  refine lv_aload_n hx hb dX0_init_0 rfl (lv_at hl 0 rfl) ?_
  refine W.objInit hx hb hown (hts _ kq_39) (hts _ kq_40) (hts _ kq_41) rfl (by rw [hml]; exact hl.1) rfl dX0_init_1 (Nat.le_of_ble_eq_true rfl) (Nat.le_of_ble_eq_true rfl) ?_
  refine W.eq (g2 := F0 m 4 ls []) rfl ?_
  refine lv_aload_n hx hb dX0_init_4 rfl (lv_at hl 0 rfl) ?_
  refine lv_bipush (v := 16) hx hb dX0_init_5 (by decide) ?_
  refine kr_newI0 hx hb hts hK hP hD hS hA 16 (by decide) rfl (by decide) (Nat.le_of_ble_eq_true rfl) (Nat.le_of_ble_eq_true rfl) dX0_init_7 (fun q7 cy H hK hP hD hS => ?_)
  have hP : va_P D vwCl [(h, .inr (0, [.null, .null, .null, .null, .null, .int 0, .null, .int 0, .null, .null])), (q7, .inl (cy, 16, .inl (fun _ => 0)))] H := hP
  have hD : va_D AA [(h, .inr (0, [.null, .null, .null, .null, .null, .int 0, .null, .int 0, .null, .null])), (q7, .inl (cy, 16, .inl (fun _ => 0)))] := hD
  refine va_putF (ci := 0) (v := .ref q7) (ty := .array .int) (C := RX0) (T := TX0) (N := 10) hx hb hts kr_wsX0 tyX0 tyX0_ok nmX0 hown hK hP hD hS 0 rfl rfl 0 (by decide) (hts _ kq_42) (fun _ h9 => h9) rfl hin rfl (by decide +kernel) rfl rfl (Nat.le_of_ble_eq_true rfl) dX0_init_9 (fun H locs hP hD hS => ?_)
  have hP : va_P D vwCl [(h, .inr (0, [.ref q7, .null, .null, .null, .null, .int 0, .null, .int 0, .null, .null])), (q7, .inl (cy, 16, .inl (fun _ => 0)))] H := hP
  have hD : va_D AA [(h, .inr (0, [.ref q7, .null, .null, .null, .null, .int 0, .null, .int 0, .null, .null])), (q7, .inl (cy, 16, .inl (fun _ => 0)))] := hD
  refine lv_aload_n hx hb dX0_init_12 rfl (lv_at hl 0 rfl) ?_
  refine lv_bipush (v := 16) hx hb dX0_init_13 (by decide) ?_
  refine kr_newI hx hb hts hK hP hD hS hA 16 (by decide) rfl (by decide) (Nat.le_of_ble_eq_true rfl) (Nat.le_of_ble_eq_true rfl) dX0_init_15 (fun q15 H hP hD hS => ?_)
  have hP : va_P D vwCl [(h, .inr (0, [.ref q7, .null, .null, .null, .null, .int 0, .null, .int 0, .null, .null])), (q7, .inl (cy, 16, .inl (fun _ => 0))), (q15, .inl (cy, 16, .inl (fun _ => 0)))] H := hP
  have hD : va_D AA [(h, .inr (0, [.ref q7, .null, .null, .null, .null, .int 0, .null, .int 0, .null, .null])), (q7, .inl (cy, 16, .inl (fun _ => 0))), (q15, .inl (cy, 16, .inl (fun _ => 0)))] := hD
  refine va_putF (ci := 0) (v := .ref q15) (ty := .array .int) (C := RX0) (T := TX0) (N := 10) hx hb hts kr_wsX0 tyX0 tyX0_ok nmX0 hown hK hP hD hS 0 rfl rfl 1 (by decide) (hts _ kq_43) (fun _ h9 => h9) rfl hin rfl (by decide +kernel) rfl rfl (Nat.le_of_ble_eq_true rfl) dX0_init_17 (fun H locs hP hD hS => ?_)
  have hP : va_P D vwCl [(h, .inr (0, [.ref q7, .ref q15, .null, .null, .null, .int 0, .null, .int 0, .null, .null])), (q7, .inl (cy, 16, .inl (fun _ => 0))), (q15, .inl (cy, 16, .inl (fun _ => 0)))] H := hP
  have hD : va_D AA [(h, .inr (0, [.ref q7, .ref q15, .null, .null, .null, .int 0, .null, .int 0, .null, .null])), (q7, .inl (cy, 16, .inl (fun _ => 0))), (q15, .inl (cy, 16, .inl (fun _ => 0)))] := hD
  refine lv_aload_n hx hb dX0_init_20 rfl (lv_at hl 0 rfl) ?_
  refine lv_bipush (v := 16) hx hb dX0_init_21 (by decide) ?_
  refine kr_newI hx hb hts hK hP hD hS hA 16 (by decide) rfl (by decide) (Nat.le_of_ble_eq_true rfl) (Nat.le_of_ble_eq_true rfl) dX0_init_23 (fun q23 H hP hD hS => ?_)
  have hP : va_P D vwCl [(h, .inr (0, [.ref q7, .ref q15, .null, .null, .null, .int 0, .null, .int 0, .null, .null])), (q7, .inl (cy, 16, .inl (fun _ => 0))), (q15, .inl (cy, 16, .inl (fun _ => 0))), (q23, .inl (cy, 16, .inl (fun _ => 0)))] H := hP
  have hD : va_D AA [(h, .inr (0, [.ref q7, .ref q15, .null, .null, .null, .int 0, .null, .int 0, .null, .null])), (q7, .inl (cy, 16, .inl (fun _ => 0))), (q15, .inl (cy, 16, .inl (fun _ => 0))), (q23, .inl (cy, 16, .inl (fun _ => 0)))] := hD
  refine va_putF (ci := 0) (v := .ref q23) (ty := .array .int) (C := RX0) (T := TX0) (N := 10) hx hb hts kr_wsX0 tyX0 tyX0_ok nmX0 hown hK hP hD hS 0 rfl rfl 2 (by decide) (hts _ kq_44) (fun _ h9 => h9) rfl hin rfl (by decide +kernel) rfl rfl (Nat.le_of_ble_eq_true rfl) dX0_init_25 (fun H locs hP hD hS => ?_)
  have hP : va_P D vwCl [(h, .inr (0, [.ref q7, .ref q15, .ref q23, .null, .null, .int 0, .null, .int 0, .null, .null])), (q7, .inl (cy, 16, .inl (fun _ => 0))), (q15, .inl (cy, 16, .inl (fun _ => 0))), (q23, .inl (cy, 16, .inl (fun _ => 0)))] H := hP
  have hD : va_D AA [(h, .inr (0, [.ref q7, .ref q15, .ref q23, .null, .null, .int 0, .null, .int 0, .null, .null])), (q7, .inl (cy, 16, .inl (fun _ => 0))), (q15, .inl (cy, 16, .inl (fun _ => 0))), (q23, .inl (cy, 16, .inl (fun _ => 0)))] := hD
  refine lv_aload_n hx hb dX0_init_28 rfl (lv_at hl 0 rfl) ?_
  refine lv_bipush (v := 16) hx hb dX0_init_29 (by decide) ?_
  refine kr_newI hx hb hts hK hP hD hS hA 16 (by decide) rfl (by decide) (Nat.le_of_ble_eq_true rfl) (Nat.le_of_ble_eq_true rfl) dX0_init_31 (fun q31 H hP hD hS => ?_)
  have hP : va_P D vwCl [(h, .inr (0, [.ref q7, .ref q15, .ref q23, .null, .null, .int 0, .null, .int 0, .null, .null])), (q7, .inl (cy, 16, .inl (fun _ => 0))), (q15, .inl (cy, 16, .inl (fun _ => 0))), (q23, .inl (cy, 16, .inl (fun _ => 0))), (q31, .inl (cy, 16, .inl (fun _ => 0)))] H := hP
  have hD : va_D AA [(h, .inr (0, [.ref q7, .ref q15, .ref q23, .null, .null, .int 0, .null, .int 0, .null, .null])), (q7, .inl (cy, 16, .inl (fun _ => 0))), (q15, .inl (cy, 16, .inl (fun _ => 0))), (q23, .inl (cy, 16, .inl (fun _ => 0))), (q31, .inl (cy, 16, .inl (fun _ => 0)))] := hD
  refine va_putF (ci := 0) (v := .ref q31) (ty := .array .int) (C := RX0) (T := TX0) (N := 10) hx hb hts kr_wsX0 tyX0 tyX0_ok nmX0 hown hK hP hD hS 0 rfl rfl 3 (by decide) (hts _ kq_45) (fun _ h9 => h9) rfl hin rfl (by decide +kernel) rfl rfl (Nat.le_of_ble_eq_true rfl) dX0_init_33 (fun H locs hP hD hS => ?_)
  have hP : va_P D vwCl [(h, .inr (0, [.ref q7, .ref q15, .ref q23, .ref q31, .null, .int 0, .null, .int 0, .null, .null])), (q7, .inl (cy, 16, .inl (fun _ => 0))), (q15, .inl (cy, 16, .inl (fun _ => 0))), (q23, .inl (cy, 16, .inl (fun _ => 0))), (q31, .inl (cy, 16, .inl (fun _ => 0)))] H := hP
  have hD : va_D AA [(h, .inr (0, [.ref q7, .ref q15, .ref q23, .ref q31, .null, .int 0, .null, .int 0, .null, .null])), (q7, .inl (cy, 16, .inl (fun _ => 0))), (q15, .inl (cy, 16, .inl (fun _ => 0))), (q23, .inl (cy, 16, .inl (fun _ => 0))), (q31, .inl (cy, 16, .inl (fun _ => 0)))] := hD
  refine lv_aload_n hx hb dX0_init_36 rfl (lv_at hl 0 rfl) ?_
  refine lv_bipush (v := 16) hx hb dX0_init_37 (by decide) ?_
  refine kr_newI hx hb hts hK hP hD hS hA 16 (by decide) rfl (by decide) (Nat.le_of_ble_eq_true rfl) (Nat.le_of_ble_eq_true rfl) dX0_init_39 (fun q39 H hP hD hS => ?_)
  have hP : va_P D vwCl [(h, .inr (0, [.ref q7, .ref q15, .ref q23, .ref q31, .null, .int 0, .null, .int 0, .null, .null])), (q7, .inl (cy, 16, .inl (fun _ => 0))), (q15, .inl (cy, 16, .inl (fun _ => 0))), (q23, .inl (cy, 16, .inl (fun _ => 0))), (q31, .inl (cy, 16, .inl (fun _ => 0))), (q39, .inl (cy, 16, .inl (fun _ => 0)))] H := hP
  have hD : va_D AA [(h, .inr (0, [.ref q7, .ref q15, .ref q23, .ref q31, .null, .int 0, .null, .int 0, .null, .null])), (q7, .inl (cy, 16, .inl (fun _ => 0))), (q15, .inl (cy, 16, .inl (fun _ => 0))), (q23, .inl (cy, 16, .inl (fun _ => 0))), (q31, .inl (cy, 16, .inl (fun _ => 0))), (q39, .inl (cy, 16, .inl (fun _ => 0)))] := hD
  refine va_putF (ci := 0) (v := .ref q39) (ty := .array .int) (C := RX0) (T := TX0) (N := 10) hx hb hts kr_wsX0 tyX0 tyX0_ok nmX0 hown hK hP hD hS 0 rfl rfl 4 (by decide) (hts _ kq_46) (fun _ h9 => h9) rfl hin rfl (by decide +kernel) rfl rfl (Nat.le_of_ble_eq_true rfl) dX0_init_41 (fun H locs hP hD hS => ?_)
  have hP : va_P D vwCl [(h, .inr (0, [.ref q7, .ref q15, .ref q23, .ref q31, .ref q39, .int 0, .null, .int 0, .null, .null])), (q7, .inl (cy, 16, .inl (fun _ => 0))), (q15, .inl (cy, 16, .inl (fun _ => 0))), (q23, .inl (cy, 16, .inl (fun _ => 0))), (q31, .inl (cy, 16, .inl (fun _ => 0))), (q39, .inl (cy, 16, .inl (fun _ => 0)))] H := hP
  have hD : va_D AA [(h, .inr (0, [.ref q7, .ref q15, .ref q23, .ref q31, .ref q39, .int 0, .null, .int 0, .null, .null])), (q7, .inl (cy, 16, .inl (fun _ => 0))), (q15, .inl (cy, 16, .inl (fun _ => 0))), (q23, .inl (cy, 16, .inl (fun _ => 0))), (q31, .inl (cy, 16, .inl (fun _ => 0))), (q39, .inl (cy, 16, .inl (fun _ => 0)))] := hD
  refine lv_aload_n hx hb dX0_init_44 rfl (lv_at hl 0 rfl) ?_
  refine lv_iconst (v := 0) hx hb dX0_init_45 (by decide) ?_
  refine va_put (ci := 0) (v := .int 0) (ty := .int) (C := RX0) (T := TX0) (N := 10) hx hb hts kr_wsX0 tyX0 tyX0_ok nmX0 hown hK hP hD hS 0 rfl rfl 5 (by decide) (hts _ kq_47) (fun _ h9 => h9) rfl (by decide +kernel) rfl rfl (Nat.le_of_ble_eq_true rfl) dX0_init_46 (fun H locs hP hD hS => ?_)
  have hP : va_P D vwCl [(h, .inr (0, [.ref q7, .ref q15, .ref q23, .ref q31, .ref q39, .int 0, .null, .int 0, .null, .null])), (q7, .inl (cy, 16, .inl (fun _ => 0))), (q15, .inl (cy, 16, .inl (fun _ => 0))), (q23, .inl (cy, 16, .inl (fun _ => 0))), (q31, .inl (cy, 16, .inl (fun _ => 0))), (q39, .inl (cy, 16, .inl (fun _ => 0)))] H := hP
  have hD : va_D AA [(h, .inr (0, [.ref q7, .ref q15, .ref q23, .ref q31, .ref q39, .int 0, .null, .int 0, .null, .null])), (q7, .inl (cy, 16, .inl (fun _ => 0))), (q15, .inl (cy, 16, .inl (fun _ => 0))), (q23, .inl (cy, 16, .inl (fun _ => 0))), (q31, .inl (cy, 16, .inl (fun _ => 0))), (q39, .inl (cy, 16, .inl (fun _ => 0)))] := hD
  refine lv_aload_n hx hb dX0_init_49 rfl (lv_at hl 0 rfl) ?_
  refine lv_bipush (v := 6) hx hb dX0_init_50 (by decide) ?_
  refine kr_newI hx hb hts hK hP hD hS hA 6 (by decide) rfl (by decide) (Nat.le_of_ble_eq_true rfl) (Nat.le_of_ble_eq_true rfl) dX0_init_52 (fun q52 H hP hD hS => ?_)
  have hP : va_P D vwCl [(h, .inr (0, [.ref q7, .ref q15, .ref q23, .ref q31, .ref q39, .int 0, .null, .int 0, .null, .null])), (q7, .inl (cy, 16, .inl (fun _ => 0))), (q15, .inl (cy, 16, .inl (fun _ => 0))), (q23, .inl (cy, 16, .inl (fun _ => 0))), (q31, .inl (cy, 16, .inl (fun _ => 0))), (q39, .inl (cy, 16, .inl (fun _ => 0))), (q52, .inl (cy, 6, .inl (fun _ => 0)))] H := hP
  have hD : va_D AA [(h, .inr (0, [.ref q7, .ref q15, .ref q23, .ref q31, .ref q39, .int 0, .null, .int 0, .null, .null])), (q7, .inl (cy, 16, .inl (fun _ => 0))), (q15, .inl (cy, 16, .inl (fun _ => 0))), (q23, .inl (cy, 16, .inl (fun _ => 0))), (q31, .inl (cy, 16, .inl (fun _ => 0))), (q39, .inl (cy, 16, .inl (fun _ => 0))), (q52, .inl (cy, 6, .inl (fun _ => 0)))] := hD
  refine va_putF (ci := 0) (v := .ref q52) (ty := .array .int) (C := RX0) (T := TX0) (N := 10) hx hb hts kr_wsX0 tyX0 tyX0_ok nmX0 hown hK hP hD hS 0 rfl rfl 6 (by decide) (hts _ kq_48) (fun _ h9 => h9) rfl hin rfl (by decide +kernel) rfl rfl (Nat.le_of_ble_eq_true rfl) dX0_init_54 (fun H locs hP hD hS => ?_)
  have hP : va_P D vwCl [(h, .inr (0, [.ref q7, .ref q15, .ref q23, .ref q31, .ref q39, .int 0, .ref q52, .int 0, .null, .null])), (q7, .inl (cy, 16, .inl (fun _ => 0))), (q15, .inl (cy, 16, .inl (fun _ => 0))), (q23, .inl (cy, 16, .inl (fun _ => 0))), (q31, .inl (cy, 16, .inl (fun _ => 0))), (q39, .inl (cy, 16, .inl (fun _ => 0))), (q52, .inl (cy, 6, .inl (fun _ => 0)))] H := hP
  have hD : va_D AA [(h, .inr (0, [.ref q7, .ref q15, .ref q23, .ref q31, .ref q39, .int 0, .ref q52, .int 0, .null, .null])), (q7, .inl (cy, 16, .inl (fun _ => 0))), (q15, .inl (cy, 16, .inl (fun _ => 0))), (q23, .inl (cy, 16, .inl (fun _ => 0))), (q31, .inl (cy, 16, .inl (fun _ => 0))), (q39, .inl (cy, 16, .inl (fun _ => 0))), (q52, .inl (cy, 6, .inl (fun _ => 0)))] := hD
  refine lv_aload_n hx hb dX0_init_57 rfl (lv_at hl 0 rfl) ?_
  refine lv_iconst (v := 0) hx hb dX0_init_58 (by decide) ?_
  refine va_put (ci := 0) (v := .int 0) (ty := .int) (C := RX0) (T := TX0) (N := 10) hx hb hts kr_wsX0 tyX0 tyX0_ok nmX0 hown hK hP hD hS 0 rfl rfl 7 (by decide) (hts _ kq_49) (fun _ h9 => h9) rfl (by decide +kernel) rfl rfl (Nat.le_of_ble_eq_true rfl) dX0_init_59 (fun H locs hP hD hS => ?_)
  have hP : va_P D vwCl [(h, .inr (0, [.ref q7, .ref q15, .ref q23, .ref q31, .ref q39, .int 0, .ref q52, .int 0, .null, .null])), (q7, .inl (cy, 16, .inl (fun _ => 0))), (q15, .inl (cy, 16, .inl (fun _ => 0))), (q23, .inl (cy, 16, .inl (fun _ => 0))), (q31, .inl (cy, 16, .inl (fun _ => 0))), (q39, .inl (cy, 16, .inl (fun _ => 0))), (q52, .inl (cy, 6, .inl (fun _ => 0)))] H := hP
  have hD : va_D AA [(h, .inr (0, [.ref q7, .ref q15, .ref q23, .ref q31, .ref q39, .int 0, .ref q52, .int 0, .null, .null])), (q7, .inl (cy, 16, .inl (fun _ => 0))), (q15, .inl (cy, 16, .inl (fun _ => 0))), (q23, .inl (cy, 16, .inl (fun _ => 0))), (q31, .inl (cy, 16, .inl (fun _ => 0))), (q39, .inl (cy, 16, .inl (fun _ => 0))), (q52, .inl (cy, 6, .inl (fun _ => 0)))] := hD
  refine lv_aload_n hx hb dX0_init_62 rfl (lv_at hl 0 rfl) ?_
  refine lv_bipush (v := 30) hx hb dX0_init_63 (by decide) ?_
  refine kr_newI hx hb hts hK hP hD hS hA 30 (by decide) rfl (by decide) (Nat.le_of_ble_eq_true rfl) (Nat.le_of_ble_eq_true rfl) dX0_init_65 (fun q65 H hP hD hS => ?_)
  have hP : va_P D vwCl [(h, .inr (0, [.ref q7, .ref q15, .ref q23, .ref q31, .ref q39, .int 0, .ref q52, .int 0, .null, .null])), (q7, .inl (cy, 16, .inl (fun _ => 0))), (q15, .inl (cy, 16, .inl (fun _ => 0))), (q23, .inl (cy, 16, .inl (fun _ => 0))), (q31, .inl (cy, 16, .inl (fun _ => 0))), (q39, .inl (cy, 16, .inl (fun _ => 0))), (q52, .inl (cy, 6, .inl (fun _ => 0))), (q65, .inl (cy, 30, .inl (fun _ => 0)))] H := hP
  have hD : va_D AA [(h, .inr (0, [.ref q7, .ref q15, .ref q23, .ref q31, .ref q39, .int 0, .ref q52, .int 0, .null, .null])), (q7, .inl (cy, 16, .inl (fun _ => 0))), (q15, .inl (cy, 16, .inl (fun _ => 0))), (q23, .inl (cy, 16, .inl (fun _ => 0))), (q31, .inl (cy, 16, .inl (fun _ => 0))), (q39, .inl (cy, 16, .inl (fun _ => 0))), (q52, .inl (cy, 6, .inl (fun _ => 0))), (q65, .inl (cy, 30, .inl (fun _ => 0)))] := hD
  refine va_putF (ci := 0) (v := .ref q65) (ty := .array .int) (C := RX0) (T := TX0) (N := 10) hx hb hts kr_wsX0 tyX0 tyX0_ok nmX0 hown hK hP hD hS 0 rfl rfl 8 (by decide) (hts _ kq_50) (fun _ h9 => h9) rfl hin rfl (by decide +kernel) rfl rfl (Nat.le_of_ble_eq_true rfl) dX0_init_67 (fun H locs hP hD hS => ?_)
  have hP : va_P D vwCl [(h, .inr (0, [.ref q7, .ref q15, .ref q23, .ref q31, .ref q39, .int 0, .ref q52, .int 0, .ref q65, .null])), (q7, .inl (cy, 16, .inl (fun _ => 0))), (q15, .inl (cy, 16, .inl (fun _ => 0))), (q23, .inl (cy, 16, .inl (fun _ => 0))), (q31, .inl (cy, 16, .inl (fun _ => 0))), (q39, .inl (cy, 16, .inl (fun _ => 0))), (q52, .inl (cy, 6, .inl (fun _ => 0))), (q65, .inl (cy, 30, .inl (fun _ => 0)))] H := hP
  have hD : va_D AA [(h, .inr (0, [.ref q7, .ref q15, .ref q23, .ref q31, .ref q39, .int 0, .ref q52, .int 0, .ref q65, .null])), (q7, .inl (cy, 16, .inl (fun _ => 0))), (q15, .inl (cy, 16, .inl (fun _ => 0))), (q23, .inl (cy, 16, .inl (fun _ => 0))), (q31, .inl (cy, 16, .inl (fun _ => 0))), (q39, .inl (cy, 16, .inl (fun _ => 0))), (q52, .inl (cy, 6, .inl (fun _ => 0))), (q65, .inl (cy, 30, .inl (fun _ => 0)))] := hD
  refine lv_aload_n hx hb dX0_init_70 rfl (lv_at hl 0 rfl) ?_
  refine lv_bipush (v := 30) hx hb dX0_init_71 (by decide) ?_
  refine kr_newI hx hb hts hK hP hD hS hA 30 (by decide) rfl (by decide) (Nat.le_of_ble_eq_true rfl) (Nat.le_of_ble_eq_true rfl) dX0_init_73 (fun q73 H hP hD hS => ?_)
  have hP : va_P D vwCl [(h, .inr (0, [.ref q7, .ref q15, .ref q23, .ref q31, .ref q39, .int 0, .ref q52, .int 0, .ref q65, .null])), (q7, .inl (cy, 16, .inl (fun _ => 0))), (q15, .inl (cy, 16, .inl (fun _ => 0))), (q23, .inl (cy, 16, .inl (fun _ => 0))), (q31, .inl (cy, 16, .inl (fun _ => 0))), (q39, .inl (cy, 16, .inl (fun _ => 0))), (q52, .inl (cy, 6, .inl (fun _ => 0))), (q65, .inl (cy, 30, .inl (fun _ => 0))), (q73, .inl (cy, 30, .inl (fun _ => 0)))] H := hP
  have hD : va_D AA [(h, .inr (0, [.ref q7, .ref q15, .ref q23, .ref q31, .ref q39, .int 0, .ref q52, .int 0, .ref q65, .null])), (q7, .inl (cy, 16, .inl (fun _ => 0))), (q15, .inl (cy, 16, .inl (fun _ => 0))), (q23, .inl (cy, 16, .inl (fun _ => 0))), (q31, .inl (cy, 16, .inl (fun _ => 0))), (q39, .inl (cy, 16, .inl (fun _ => 0))), (q52, .inl (cy, 6, .inl (fun _ => 0))), (q65, .inl (cy, 30, .inl (fun _ => 0))), (q73, .inl (cy, 30, .inl (fun _ => 0)))] := hD
  refine va_putF (ci := 0) (v := .ref q73) (ty := .array .int) (C := RX0) (T := TX0) (N := 10) hx hb hts kr_wsX0 tyX0 tyX0_ok nmX0 hown hK hP hD hS 0 rfl rfl 9 (by decide) (hts _ kq_51) (fun _ h9 => h9) rfl hin rfl (by decide +kernel) rfl rfl (Nat.le_of_ble_eq_true rfl) dX0_init_75 (fun H locs hP hD hS => ?_)
  have hP : va_P D vwCl [(h, .inr (0, [.ref q7, .ref q15, .ref q23, .ref q31, .ref q39, .int 0, .ref q52, .int 0, .ref q65, .ref q73])), (q7, .inl (cy, 16, .inl (fun _ => 0))), (q15, .inl (cy, 16, .inl (fun _ => 0))), (q23, .inl (cy, 16, .inl (fun _ => 0))), (q31, .inl (cy, 16, .inl (fun _ => 0))), (q39, .inl (cy, 16, .inl (fun _ => 0))), (q52, .inl (cy, 6, .inl (fun _ => 0))), (q65, .inl (cy, 30, .inl (fun _ => 0))), (q73, .inl (cy, 30, .inl (fun _ => 0)))] H := hP
  have hD : va_D AA [(h, .inr (0, [.ref q7, .ref q15, .ref q23, .ref q31, .ref q39, .int 0, .ref q52, .int 0, .ref q65, .ref q73])), (q7, .inl (cy, 16, .inl (fun _ => 0))), (q15, .inl (cy, 16, .inl (fun _ => 0))), (q23, .inl (cy, 16, .inl (fun _ => 0))), (q31, .inl (cy, 16, .inl (fun _ => 0))), (q39, .inl (cy, 16, .inl (fun _ => 0))), (q52, .inl (cy, 6, .inl (fun _ => 0))), (q65, .inl (cy, 30, .inl (fun _ => 0))), (q73, .inl (cy, 30, .inl (fun _ => 0)))] := hD
  obtain ⟨a, ha⟩ : ∃ a : Nat → Nat, a = fun k => match k with | 0 => q7 | 1 => q15 | 2 => q23 | 3 => q31 | 4 => q39 | 5 => q52 | 6 => q65 | _ => q73 := ⟨_, rfl⟩
  have hP9 : va_P D vwCl (kr_W0 cy h a 0 0 (fun _ _ => 0)) H := by subst ha; exact hP.sub [0, 1, 2, 3, 4, 5, 6, 7, 8] rfl
  have hD9 : va_D AA (kr_W0 cy h a 0 0 (fun _ _ => 0)) := by subst ha; exact hD.sub [0, 1, 2, 3, 4, 5, 6, 7, 8] (by decide) rfl
  exact W.vret hx hb hr (fun t ht hW => ⟨⟨(cy, a), rfl, trivial, by rw [ht]; exact hP9, va_K.moved hW.alike hK, hD9⟩, hS.F ht⟩) hS.2.2 dX0_init_78 hlocks
