/-! what makes rows; the mean -/
section KRNW
variable {p : Program} {l : Launch} {e : Env} {R : Room} {s : State} {m : MethodId} {args : Array Value} {below : List Frame} {meth : Method} {c : Code} {H : Heap} {locs : List Loc} {cells slots : Nat} {Q : State → Prop} {cc : ByteArray} {pc : Nat} {ls : Array Slot} {rest st : List Value} {D : va_G} {cl : List vw_C} {ws : va_W} {cy : ClassId} {AA : Nat → Prop} {H0 : Heap}
theorem kr_newI (hx : p.tables.exec = Jvm.exec) (hb : c.code = cc) (hts : ∀ w ∈ kr_all, w.before args s = true) (hK : va_K D cl [(cy, .int)] s) (hP : va_P D cl ws H) (hD : va_D AA ws) (hS : va_S AA H0 H locs) (hA : ∀ q : Nat, H0.size ≤ q → AA q) {n : Int32} (N' : Nat) (hn : ¬ n < 0) (hN : n.toNatClampNeg = N') (hb2 : N' ≤ 1000) (hcells : cells + 1 ≤ R.cells) (hslots : slots + N' ≤ R.slots) (hdg : decode cc pc = .ok (.newarray .int, 2))
    (kk : ∀ (q : Nat) (H1 : Heap), va_P D cl (ws ++ [(q, .inl (cy, N', .inl (fun _ => 0)))]) H1 → va_D AA (ws ++ [(q, .inl (cy, N', .inl (fun _ => 0)))]) → va_S AA H0 H1 locs → W p l e R s m args below meth c H1 locs (cells + 1) (slots + N') Q (F0 m (pc + 2) ls (.ref q :: rest))) : W p l e R s m args below meth c H locs cells slots Q (F0 m pc ls (.int n :: rest)) := by
  refine va_newa (atype := .int) hx hb (hts _ kq_73) rfl hK hP hD hS hA (a0 := (N', .inl (fun _ => 0))) (fun _ => rfl) hn hN (show N' * 4 ≤ 536870912 by omega) hcells hslots hdg (fun q cA H1 hK' hP' hD' hS' => ?_)
  have e1 : va_RA s cy .int := (hK.2 0 _ rfl).2
  have e2 : va_RA s cA .int := (hK'.2 1 _ rfl).2
  obtain rfl : cA = cy := Option.some.inj (Eq.trans (Eq.symm e2) e1)
  exact kk q H1 hP' hD' hS'
/-- the first of them: its class comes with it -/
theorem kr_newI0 (hx : p.tables.exec = Jvm.exec) (hb : c.code = cc) (hts : ∀ w ∈ kr_all, w.before args s = true) (hK : va_K D cl [] s) (hP : va_P D cl ws H) (hD : va_D AA ws) (hS : va_S AA H0 H locs) (hA : ∀ q : Nat, H0.size ≤ q → AA q) {n : Int32} (N' : Nat) (hn : ¬ n < 0) (hN : n.toNatClampNeg = N') (hb2 : N' ≤ 1000) (hcells : cells + 1 ≤ R.cells) (hslots : slots + N' ≤ R.slots) (hdg : decode cc pc = .ok (.newarray .int, 2))
    (kk : ∀ (q : Nat) (cy : ClassId) (H1 : Heap), va_K D cl [(cy, .int)] s → va_P D cl (ws ++ [(q, .inl (cy, N', .inl (fun _ => 0)))]) H1 → va_D AA (ws ++ [(q, .inl (cy, N', .inl (fun _ => 0)))]) → va_S AA H0 H1 locs → W p l e R s m args below meth c H1 locs (cells + 1) (slots + N') Q (F0 m (pc + 2) ls (.ref q :: rest))) : W p l e R s m args below meth c H locs cells slots Q (F0 m pc ls (.int n :: rest)) :=
  va_newa (atype := .int) hx hb (hts _ kq_73) rfl hK hP hD hS hA (a0 := (N', .inl (fun _ => 0))) (fun _ => rfl) hn hN (show N' * 4 ≤ 536870912 by omega) hcells hslots hdg (fun q cA H1 hK' hP' hD' hS' => kk q cA H1 hK' hP' hD' hS')
/-- a loop that makes things: what is made is counted with the state -/
theorem kr_lpC {α : Type} {nL : Nat} (lv : α → List (Nat × Value)) (I : α → Heap → List Loc → Prop) (μ cf sf : α → Nat)
    (body : ∀ (q : α) (H : Heap) (locs : List Loc) (ls : Array Slot), I q H locs → lv_has ls nL (lv q) → (∀ (q' : α) (H' : Heap) (locs' : List Loc) (ls' : Array Slot), I q' H' locs' → μ q' < μ q → lv_has ls' nL (lv q') → W p l e R s m args below meth c H' locs' (cf q') (sf q') Q (F0 m pc ls' st)) → W p l e R s m args below meth c H locs (cf q) (sf q) Q (F0 m pc ls st))
    (q0 : α) {H : Heap} {locs : List Loc} (h0 : I q0 H locs) {ls : Array Slot} (hl : lv_has ls nL (lv q0)) : W p l e R s m args below meth c H locs (cf q0) (sf q0) Q (F0 m pc ls st) := by
  have key : ∀ (n : Nat) (q : α) (H : Heap) (locs : List Loc) (ls : Array Slot), μ q < n → I q H locs → lv_has ls nL (lv q) → W p l e R s m args below meth c H locs (cf q) (sf q) Q (F0 m pc ls st) := by
    intro n
    induction n with
    | zero => intro q H locs ls h; omega
    | succ n ih => intro q H locs ls h hI hl; exact body q H locs ls hI hl (fun q' H' locs' ls' hI' hm hl' => ih q' H' locs' ls' (by omega) hI' hl')
  exact key (μ q0 + 1) q0 H locs ls (Nat.lt_succ_self _) h0 hl
end KRNW
def kr_m2 (N : Nat) (A : Nat → Nat → Int32) : UInt64 := if N = 0 then FP.dconst0 else FP.ddiv (FP.i2d (kr_sm A N)) (FP.i2d (nI N))
/-- efficiencies are small -/
def kr_we (N : Nat) (A : Nat → Nat → Int32) : Prop := ∀ k, k < N → ∃ q, q ≤ 100 ∧ A 1 k = nI q
theorem kr_sm_nI {A : Nat → Nat → Int32} : ∀ {N : Nat}, kr_we N A → ∃ q, q ≤ 100 * N ∧ kr_sm A N = nI q
  | 0, _ => ⟨0, Nat.le_refl _, rfl⟩
  | N + 1, h => by
    obtain ⟨q, h1, h2⟩ := kr_sm_nI (N := N) (A := A) (fun k hk => h k (by omega))
    obtain ⟨r, h3, h4⟩ := h N (by omega)
    refine ⟨q + r, by omega, ?_⟩
    show kr_sm A N + A 1 N = _
    rw [h2, h4, nI_add]
theorem kr_rr {f : FP.Core.Fmt} {s : Bool} {A B : Nat} {e : Int} : FP.Core.roundRatio f s A B e ≠ .nan := by
  unfold FP.Core.roundRatio FP.Core.roundAt FP.Core.settle FP.Core.bound
  repeat' split
  all_goals (intro h; cases h)
theorem kr_dn {q n : Nat} (hq : q < 2 ^ 31) (hn : n < 2 ^ 31) (h0 : 0 < n) : FP.Core.val64 (FP.Core.ddiv (FP.Core.i2d (nI q)) (FP.Core.i2d (nI n))) ≠ .nan := by
  have hx := FP.Core.i2d_int (nI q)
  have hy := FP.Core.i2d_int (nI n)
  rw [nI_toInt hq] at hx
  rw [nI_toInt hn] at hy
  rw [FP.Core.val64_ddiv]
  unfold FP.Core.DInt at hx hy
  generalize FP.Core.val64 (FP.Core.i2d (nI q)) = x at hx ⊢
  generalize FP.Core.val64 (FP.Core.i2d (nI n)) = y at hy ⊢
  cases x with
  | nan => exact hx.elim
  | inf _ => exact hx.elim
  | fin s c r =>
    cases y with
    | nan => exact hy.elim
    | inf _ => exact hy.elim
    | fin t d u =>
      have hd : ¬ d = 0 := by
        intro h
        rw [h] at hy
        have hy2 : FP.Core.signed t (0 * 2 ^ u.toNat) = (n : Int) * ((2 ^ (-u).toNat : Nat) : Int) := hy
        rw [Nat.zero_mul] at hy2
        have h1 : 0 < 2 ^ (-u).toNat := Nat.pow_pos (by decide)
        have h2 : FP.Core.signed t 0 = 0 := by cases t <;> rfl
        rw [h2, ← Int.natCast_mul] at hy2
        have h3 : 0 < n * 2 ^ (-u).toNat := Nat.mul_pos h0 h1
        omega
      show (if d = 0 then _ else _) ≠ _
      rw [if_neg hd]
      exact kr_rr
theorem kr_vf {a : UInt64} (h : FP.Core.val64 a ≠ .nan) : vf_n64 a := by
  have h1 := (FP.Core.ne_nan a).mp h
  unfold vf_n64
  rw [UInt64.le_iff_toNat_le, UInt64.toNat_and]
  have e1 : (0x7fffffffffffffff : UInt64).toNat = 2 ^ 63 - 1 := rfl
  have e2 : (0x7ff0000000000000 : UInt64).toNat = 9218868437227405312 := rfl
  rw [e1, e2, Nat.and_two_pow_sub_one_eq_mod]
  exact h1
theorem kr_m2_ne {N : Nat} {A : Nat → Nat → Int32} (hN : N ≤ 16) (h : kr_we N A) : FP.Core.val64 (kr_m2 N A) ≠ .nan := by
  unfold kr_m2
  by_cases h0 : N = 0
  · rw [if_pos h0]; decide +kernel
  · rw [if_neg h0]
    obtain ⟨q, hq, e⟩ := kr_sm_nI h
    rw [e]
    exact kr_dn (by omega) (by omega) (by omega)
theorem kr_m2_vf {N : Nat} {A : Nat → Nat → Int32} (hN : N ≤ 16) (h : kr_we N A) : vf_n64 (kr_m2 N A) := kr_vf (kr_m2_ne hN h)
theorem kr_m2_cmp {N : Nat} {A : Nat → Nat → Int32} {op : CmpOp} (hN : N ≤ 16) (h : kr_we N A) : Op.cmpValue (FP.dcmp (kr_m2 N A) (kr_m2 N A)) op = 0 := by
  rw [show FP.dcmp (kr_m2 N A) (kr_m2 N A) = some .eq from FP.Core.dcmp_self (kr_m2_ne hN h)]
  rfl
