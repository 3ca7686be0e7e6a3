/-! what the calls that write keep; the rows by hand behind them -/
def kr_ad (ad : Nat → Nat → Nat) (i k q : Nat) : Nat → Nat → Nat := va_up ad i (va_up (ad i) k q)
section KRA
variable {N L q r k : Nat} {A : Nat → Nat → Int32} {x y z ld : Int32}
theorem kr_aA_o {i : Nat} (h : i ≠ N) (j : Nat) : kr_aA A N x y z j i = A j i := by
  unfold kr_aA kr_up
  by_cases h4 : j = 4
  · rw [if_pos h4, pk_un h, h4]
  · rw [if_neg h4]
    by_cases h3 : j = 3
    · rw [if_pos h3, pk_un h, h3]
    · rw [if_neg h3]
      by_cases h2 : j = 2
      · rw [if_pos h2, pk_un h, h2]
      · rw [if_neg h2]
        by_cases h1 : j = 1
        · rw [if_pos h1, pk_un h, h1]
        · rw [if_neg h1]
          by_cases h0 : j = 0
          · rw [if_pos h0, pk_un h, h0]
          · rw [if_neg h0]
theorem kr_sA_o {i : Nat} (h : i ≠ k) (j : Nat) : kr_sA A k y z j i = A j i := by
  unfold kr_sA kr_up
  by_cases h4 : j = 4
  · rw [if_pos h4, pk_un h, h4]
  · rw [if_neg h4]
    by_cases h3 : j = 3
    · rw [if_pos h3, pk_un h, h3]
    · rw [if_neg h3]
theorem kr_jA_5 {i j : Nat} (h : j < 5) : kr_jA A q r k z j i = A j i := by
  unfold kr_jA kr_up
  rw [if_neg (by omega), if_neg (by omega), if_neg (by omega)]
theorem kr_rA_5 {i j n : Nat} (h : j < 5) : kr_rA A n k j i = A j i := by
  unfold kr_rA kr_up
  rw [if_neg (by omega)]
theorem kr_pB_5 {i j n : Nat} (h : j < 5) : kr_pB A q ld n j i = A j i := by
  unfold kr_pB kr_up
  rw [if_neg (by omega), if_neg (by omega)]
theorem kr_jA_rc {i : Nat} (hr : r < 5) : kr_rc (kr_jA A q r k z) i = if i = q then r + 1 else kr_rc A i := by
  show kr_ix (upd (A 5) q (nI (r + 1)) i) = _
  by_cases e : i = q
  · rw [e, pk_us, if_pos rfl, kr_ix_nI (by omega)]
  · rw [pk_un e, if_neg e]; rfl
theorem kr_pB_rc {i n : Nat} (hr : kr_rc A q ≤ 5) : kr_rc (kr_pB A q ld n) i = if i = q then kr_pr' A q ld else kr_rc A i := by
  have h := (kr_pr_le (ld := ld) hr).1
  show kr_ix (upd (A 5) q (nI (kr_pr' A q ld)) i) = _
  by_cases e : i = q
  · rw [e, pk_us, if_pos rfl, kr_ix_nI (by omega)]
  · rw [pk_un e, if_neg e]; rfl
theorem kr_wx_a (hw : kr_wf N L A) (hx : kr_wx N L A) (h0 : N = 0 → x = 0) (h1 : N = 1 → x = 1) (hy : ∃ e, 10 ≤ e ∧ e ≤ 100 ∧ y = nI e) (hz : ∃ e, 1 ≤ e ∧ e ≤ 9 ∧ z = nI e) : kr_wx (N + 1) L (kr_aA A N x y z) := by
  have h16 := hw.1
  obtain ⟨a1, a2, a3, a4⟩ := hx
  refine ⟨fun _ => ?_, fun h => ?_, fun k hk => ?_, fun q hq p hp => ?_⟩
  · by_cases e : N = 0
    · rw [e]; show upd (A 0) 0 x 0 = 0; rw [pk_us]; exact h0 e
    · rw [kr_aA_o (Ne.symm e)]; exact a1 (by omega)
  · by_cases e : N = 1
    · rw [e]; show upd (A 0) 1 x 1 = 1; rw [pk_us]; exact h1 e
    · rw [kr_aA_o (Ne.symm e)]; exact a2 (by omega)
  · by_cases e : k = N
    · rw [e]
      refine ⟨?_, ?_, fun j hj h => ?_⟩
      · show ∃ q, 10 ≤ q ∧ q ≤ 100 ∧ upd (A 1) N y N = nI q
        rw [pk_us]; exact hy
      · show ∃ q, 1 ≤ q ∧ q ≤ 9 ∧ upd (A 2) N z N = nI q
        rw [pk_us]; exact hz
      · have h : upd (A 4) N (-1) N = nI j := h
        rw [pk_us] at h
        exact absurd h.symm (kr_kn_ne (by omega))
    · rw [kr_aA_o e, kr_aA_o e, kr_aA_o e, kr_aA_o e]
      refine ⟨(a3 k (by omega)).1, (a3 k (by omega)).2.1, fun j hj h => ?_⟩
      rw [kr_aA_o (by omega)]
      exact (a3 k (by omega)).2.2 j hj h
  · obtain ⟨b1, b2⟩ := a4 q hq p hp
    refine ⟨b1, fun k hk h => ?_⟩
    have h : A 6 (5 * q + p) = nI k := h
    obtain ⟨k0, c1, c2⟩ := hw.tk hq (show p < kr_rc A q from hp)
    have e : k0 = k := (nI_eq (by omega) (by omega)).mp (c2.symm.trans h)
    rw [kr_aA_o (by omega)]
    exact b2 k (by omega) h
theorem kr_wx_s (hx : kr_wx N L A) (hz : z = -1 ∨ ∃ j, j < k ∧ z = nI j ∧ A 0 j = A 0 k) (hk : k < 2 ^ 31) : kr_wx N L (kr_sA A k y z) := by
  obtain ⟨a1, a2, a3, a4⟩ := hx
  refine ⟨a1, a2, fun i hi => ⟨(a3 i hi).1, (a3 i hi).2.1, fun j hj h => ?_⟩, a4⟩
  show A 0 j = A 0 i
  have h : upd (A 4) k z i = nI j := h
  by_cases e : i = k
  · subst e
    rw [pk_us] at h
    rcases hz with h1 | ⟨j2, h1, h2, h3⟩
    · rw [h1] at h; exact absurd h.symm (kr_kn_ne (by omega))
    · have : j2 = j := (nI_eq (by omega) (by omega)).mp (h2.symm.trans h)
      rw [← this]; exact h3
  · rw [pk_un e] at h
    exact (a3 i hi).2.2 j hj h
theorem kr_wx_r (hw : kr_wf N L A) (hx : kr_wx N L A) {p : Nat} (hq : q < L) (hp : p < kr_rc A q) (hk : k < N) (he : A 0 k = if p = 0 then 1 else 0) : kr_wx N L (kr_rA A (5 * q + p) k) := by
  have h16 := hw.1
  obtain ⟨a1, a2, a3, a4⟩ := hx
  refine ⟨a1, a2, a3, fun q2 hq2 p2 hp2 => ⟨(a4 q2 hq2 p2 hp2).1, fun k2 hk2 h => ?_⟩⟩
  have hp2 : p2 < kr_rc A q2 := hp2
  have r1 := (hw.rc hq).1
  have r2 := (hw.rc hq2).1
  show A 0 k2 = _
  have h : upd (A 6) (5 * q + p) (nI k) (5 * q2 + p2) = nI k2 := h
  by_cases e : 5 * q2 + p2 = 5 * q + p
  · rw [e, pk_us] at h
    have e2 : k = k2 := (nI_eq (by omega) (by omega)).mp h
    rw [← e2, he, show p2 = p by omega]
  · rw [pk_un e] at h
    exact (a4 q2 hq2 p2 hp2).2 k2 hk2 h
/-- one rope more: at a line's end, or a new line's first -/
theorem kr_wx_j {M : Nat} (hw : kr_wf N L A) (hx : kr_wx N L A) (hq : q < M) (hM : ∀ i, i < M → i = q ∨ i < L) (hr : r < 5) (hrc : q < L → kr_rc A q = r) (hr0 : ¬ q < L → r = 0) (hk : k < N) (he : A 0 k = if r = 0 then 1 else 0) (hz : ∃ e, 1 ≤ e ∧ e ≤ 999 ∧ z = nI e) : kr_wx N M (kr_jA A q r k z) := by
  have h16 := hw.1
  obtain ⟨a1, a2, a3, a4⟩ := hx
  refine ⟨a1, a2, a3, fun q2 hq2 p2 hp2 => ?_⟩
  rw [kr_jA_rc hr] at hp2
  show (∃ z1, 1 ≤ z1 ∧ z1 ≤ 999 ∧ upd (A 7) (5 * q + r) z (5 * q2 + p2) = nI z1) ∧ ∀ k1, k1 < N → upd (A 6) (5 * q + r) (nI k) (5 * q2 + p2) = nI k1 → A 0 k1 = if p2 = 0 then 1 else 0
  by_cases e : q2 = q
  · rw [if_pos e] at hp2
    subst e
    by_cases e2 : p2 = r
    · subst e2
      rw [pk_us, pk_us]
      refine ⟨hz, fun k1 h1 h2 => ?_⟩
      rw [← (nI_eq (by omega) (by omega)).mp h2]; exact he
    · rw [pk_un (by omega), pk_un (by omega)]
      by_cases h1 : q2 < L
      · exact a4 q2 h1 p2 (by rw [hrc h1]; omega)
      · have := hr0 h1; omega
  · rw [if_neg e] at hp2
    have h1 : q2 < L := (hM q2 hq2).elim (fun w => absurd w e) id
    have r2 := (hw.rc h1).1
    rw [pk_un (by omega), pk_un (by omega)]
    exact a4 q2 h1 p2 hp2
theorem kr_wx_p (hw : kr_wf N L A) (hx : kr_wx N L A) (hq : q < L) {n : Nat} (hn : n ≤ kr_pr' A q ld) : kr_wx N L (kr_pB A q ld n) := by
  have h16 := hw.1
  have r1 := (hw.rc hq).1
  have hpr := kr_pr_le (ld := ld) r1
  have hx0 := hx
  obtain ⟨a1, a2, a3, a4⟩ := hx
  refine ⟨a1, a2, a3, fun q2 hq2 p2 hp2 => ?_⟩
  rw [kr_pB_rc r1] at hp2
  have r2 := (hw.rc hq2).1
  have hp3 : p2 < kr_rc A q2 := by
    by_cases e : q2 = q
    · rw [if_pos e] at hp2; rw [e]; omega
    · rw [if_neg e] at hp2; exact hp2
  refine ⟨(a4 q2 hq2 p2 hp3).1, fun k1 h1 h2 => ?_⟩
  show A 0 k1 = _
  have h2 : kr_pf A q ld n (5 * q2 + p2) = nI k1 := h2
  unfold kr_pf at h2
  by_cases e : 5 * q ≤ 5 * q2 + p2 ∧ 5 * q2 + p2 < 5 * q + n
  · rw [if_pos e] at h2
    obtain ⟨k0, c1, c2⟩ := hw.tk hq2 hp3
    rw [c2] at h2
    rcases kr_pf1 (ld := ld) hw hx0 k0 c1 with w | ⟨j, j1, j2, j3, -⟩
    · rw [w] at h2; exact absurd h2.symm (kr_kn_ne (by omega))
    · have e2 : j = k1 := (nI_eq (by omega) (by omega)).mp (j2.symm.trans h2)
      rw [← e2, j3]
      exact (a4 q2 hq2 p2 hp3).2 k0 c1 c2
  · rw [if_neg e] at h2
    exact (a4 q2 hq2 p2 hp3).2 k1 h1 h2
/-- a pull: what is left does not spill under the load, and holds it -/
theorem kr_pA_6 (hw : kr_wf N L A) (hx : kr_wx N L A) (hq : q < L) {p : Nat} (hp : p < kr_pr' A q ld) : kr_pA A q ld 6 (5 * q + p) = kr_fm A ld 16 (A 6 (5 * q + p)) ∧ ∃ j, j < N ∧ kr_fm A ld 16 (A 6 (5 * q + p)) = nI j ∧ ¬ kr_go A ld (nI j) := by
  have h16 := hw.1
  have r1 := (hw.rc hq).1
  have hpr := kr_pr_le (ld := ld) r1
  refine ⟨if_pos ⟨by omega, by omega⟩, ?_⟩
  obtain ⟨k0, c1, c2⟩ := hw.tk hq (show p < kr_rc A q by omega)
  rcases kr_pf1 (ld := ld) hw hx k0 c1 with w | ⟨j, j1, j2, j3, j4⟩
  · exact absurd (by rw [c2]; exact w) (hpr.2 p hp).1
  · exact ⟨j, by omega, by rw [c2]; exact j2, j4⟩
theorem kr_pA_gw (hw : kr_wf N L A) (hx : kr_wx N L A) (hq : q < L) : kr_gw (kr_pA A q ld) q ld = -1 := by
  have h16 := hw.1
  have r1 := (hw.rc hq).1
  have hpr := kr_pr_le (ld := ld) r1
  have hrc : kr_rc (kr_pA A q ld) q = kr_pr' A q ld := by unfold kr_pA; rw [kr_pB_rc r1, if_pos rfl]
  refine (kr_gw_all (by omega)).mpr (fun p hp => ?_)
  rw [hrc] at hp
  obtain ⟨e6, j, h1, h2, h3⟩ := kr_pA_6 (ld := ld) hw hx hq hp
  have e3 : kr_pA A q ld 3 = A 3 := rfl
  have e4 : kr_pA A q ld 4 = A 4 := rfl
  have est : kr_st (kr_pA A q ld) q p = kr_st A q p := rfl
  have hph := hpr.2 p hp
  unfold kr_ph at hph ⊢
  rw [e6, kr_fm_cg e3 e4, h2, kr_fm_no h3, est]
  rw [h2] at hph
  exact hph
theorem kr_pA_pr (hw : kr_wf N L A) (hx : kr_wx N L A) (hq : q < L) : kr_pr' (kr_pA A q ld) q ld = kr_pr' A q ld := by
  have r1 := (hw.rc hq).1
  have hrc : kr_rc (kr_pA A q ld) q = kr_pr' A q ld := by unfold kr_pA; rw [kr_pB_rc r1, if_pos rfl]
  unfold kr_pr'
  rw [if_pos (kr_pA_gw hw hx hq), hrc]
  rfl
theorem kr_pA_pA (hw : kr_wf N L A) (hx : kr_wx N L A) (hq : q < L) : kr_pA (kr_pA A q ld) q ld = kr_pA A q ld := by
  have h16 := hw.1
  have r1 := (hw.rc hq).1
  have hpr := kr_pr_le (ld := ld) r1
  have e3 : kr_pA A q ld 3 = A 3 := rfl
  have e4 : kr_pA A q ld 4 = A 4 := rfl
  have e5 : upd (kr_pA A q ld 5) q (nI (kr_pr' A q ld)) = kr_pA A q ld 5 := by
    show upd (upd (A 5) q (nI (kr_pr' A q ld))) q (nI (kr_pr' A q ld)) = upd (A 5) q (nI (kr_pr' A q ld))
    rw [kr_upd_tw]
  have e6 : kr_pf (kr_pA A q ld) q ld (kr_pr' A q ld) = kr_pA A q ld 6 := by
    funext j
    unfold kr_pf
    by_cases e : 5 * q ≤ j ∧ j < 5 * q + kr_pr' A q ld
    · rw [if_pos e]
      obtain ⟨p, rfl⟩ : ∃ p, j = 5 * q + p := ⟨j - 5 * q, by omega⟩
      obtain ⟨f6, i, h1, h2, h3⟩ := kr_pA_6 (ld := ld) hw hx hq (show p < kr_pr' A q ld by omega)
      rw [f6, kr_fm_cg e3 e4, h2, kr_fm_no h3]
    · rw [if_neg e]
  have e7 : kr_pA (kr_pA A q ld) q ld = kr_up (kr_up (kr_pA A q ld) 5 (upd (kr_pA A q ld 5) q (nI (kr_pr' A q ld)))) 6 (kr_pf (kr_pA A q ld) q ld (kr_pr' A q ld)) := by
    show kr_up (kr_up (kr_pA A q ld) 5 (upd (kr_pA A q ld 5) q (nI (kr_pr' (kr_pA A q ld) q ld)))) 6 (kr_pf (kr_pA A q ld) q ld (kr_pr' (kr_pA A q ld) q ld)) = _
    rw [kr_pA_pr hw hx hq]
  rw [e7, e5, e6, kr_up_id, kr_up_id]
end KRA
