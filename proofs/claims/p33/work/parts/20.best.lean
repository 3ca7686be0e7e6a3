/-! the knot that had best be tied: by ranks (the class) and by numbers (the model) -/
theorem kr_ct_lt {p q : Nat → Bool} : ∀ {n k : Nat}, (∀ i, i < n → p i = true → q i = true) → k < n → q k = true → p k = false → fb_ct p n < fb_ct q n
  | 0, k, _, hk, _, _ => absurd hk (Nat.not_lt_zero k)
  | n + 1, k, h, hk, h1, h2 => by
    rw [fb_ct_succ, fb_ct_succ]
    have hs : fb_ct p n ≤ fb_ct q n := fb_ct_sub (fun i hi => h i (by omega))
    by_cases e : k = n
    · subst e
      rw [h1, h2]; simp; omega
    · have := kr_ct_lt (n := n) (fun i hi => h i (by omega)) (by omega) h1 h2
      have h3 := h n (by omega)
      cases hp : p n
      · simp; omega
      · rw [h3 hp]; simp; omega
section KRB
variable {N L : Nat} {A : Nat → Nat → Int32}
theorem kr_cn_ct (kd : Int32) : ∀ n, kr_cn A kd n = fb_ct (fun k => decide (A 0 k = kd)) n
  | 0 => rfl
  | n + 1 => by
    rw [kr_cn_s, fb_ct_succ, kr_cn_ct kd n]
    by_cases h : A 0 n = kd
    · rw [if_pos h, decide_eq_true h]; rfl
    · rw [if_neg h, decide_eq_false h]; rfl
theorem kr_rk_ct (k : Nat) : ∀ n, kr_rk A k n = fb_ct (fun j => decide (kr_ah A j k)) n
  | 0 => rfl
  | n + 1 => by
    rw [kr_rk_s, fb_ct_succ, kr_rk_ct k n]
    by_cases h : kr_ah A n k
    · rw [if_pos h, decide_eq_true h]; rfl
    · rw [if_neg h, decide_eq_false h]; rfl
theorem kr_ia_iff (j k : Nat) : kr_ia A j k ↔ ((A 1 k).toInt < (A 1 j).toInt ∨ (A 1 j).toInt = (A 1 k).toInt ∧ ((A 2 j).toInt < (A 2 k).toInt ∨ (A 2 j).toInt = (A 2 k).toInt ∧ j < k)) := by
  unfold kr_ia
  by_cases h1 : A 1 j = A 1 k
  · rw [if_pos h1, h1]
    by_cases h2 : A 2 j = A 2 k
    · rw [if_pos h2, h2]; omega
    · rw [if_neg h2, Int32.lt_iff_toInt_lt]
      have h3 : ¬ (A 2 j).toInt = (A 2 k).toInt := fun e => h2 (Int32.toInt_inj.mp e)
      omega
  · rw [if_neg h1, Int32.lt_iff_toInt_lt]
    have h3 : ¬ (A 1 j).toInt = (A 1 k).toInt := fun e => h1 (Int32.toInt_inj.mp e)
    omega
theorem kr_ia_tr {i j k : Nat} (h1 : kr_ia A i j) (h2 : kr_ia A j k) : kr_ia A i k := by
  rw [kr_ia_iff] at h1 h2 ⊢; omega
theorem kr_ia_ir (k : Nat) : ¬ kr_ia A k k := by rw [kr_ia_iff]; omega
theorem kr_ia_to {j k : Nat} (h : j ≠ k) : kr_ia A j k ∨ kr_ia A k j := by
  rw [kr_ia_iff, kr_ia_iff]; omega
theorem kr_rk_lt {j k : Nat} (hj : j < N) (h : kr_ah A j k) : kr_rk A j N < kr_rk A k N := by
  rw [kr_rk_ct, kr_rk_ct]
  refine kr_ct_lt (k := j) (fun i hi hp => ?_) hj (decide_eq_true h) (decide_eq_false (fun z => kr_ia_ir j z.2))
  have h1 := of_decide_eq_true hp
  exact decide_eq_true ⟨h1.1.trans h.1, kr_ia_tr h1.2 h.2⟩
theorem kr_rk_inj {j k : Nat} (hj : j < N) (hk : k < N) (h0 : A 0 j = A 0 k) (e : kr_rk A j N = kr_rk A k N) : j = k := by
  refine Decidable.byContradiction (fun hne => ?_)
  rcases kr_ia_to (A := A) hne with h | h
  · have := kr_rk_lt hj ⟨h0, h⟩; omega
  · have := kr_rk_lt hk ⟨h0.symm, h⟩; omega
theorem kr_rk_cn {k : Nat} (hk : k < N) : kr_rk A k N < kr_cn A (A 0 k) N := by
  rw [kr_rk_ct, kr_cn_ct]
  exact kr_ct_lt (k := k) (fun i _ hp => decide_eq_true (of_decide_eq_true hp).1) hk (decide_eq_true rfl) (decide_eq_false (fun z => kr_ia_ir k z.2))
/-- every rank has its knot -/
theorem kr_rk_on {kd : Int32} {r : Nat} (hr : r < kr_cn A kd N) : ∃ k, k < N ∧ A 0 k = kd ∧ kr_rk A k N = r := by
  have hc : ∀ t : Nat, ∃ k : Nat, t < kr_cn A kd N → k < N ∧ A 0 k = kd ∧ fb_ct (fun k => decide (A 0 k = kd)) k = t := by
    intro t
    by_cases ht : t < kr_cn A kd N
    · rw [kr_cn_ct] at ht
      obtain ⟨i, h1, h2, h3⟩ := fb_ct_kth ht
      exact ⟨i, fun _ => ⟨h1, of_decide_eq_true h2, h3⟩⟩
    · exact ⟨0, fun h => absurd h ht⟩
  obtain ⟨f, hf⟩ := Classical.axiomOfChoice hc
  obtain ⟨t, ht, e⟩ := fb_onto (n := kr_cn A kd N) (f := fun t => kr_rk A (f t) N) (fun t ht => by
      obtain ⟨h1, h2, h3⟩ := hf t ht
      have := kr_rk_cn (A := A) h1
      rw [h2] at this; exact this) (fun i j hij hj e => by
      obtain ⟨a1, a2, a3⟩ := hf i (by omega)
      obtain ⟨b1, b2, b3⟩ := hf j hj
      have := kr_rk_inj a1 b1 (a2.trans b2.symm) e
      rw [this] at a3; omega) hr
  obtain ⟨h1, h2, h3⟩ := hf t ht
  exact ⟨f t, h1, h2, e⟩
/-- the knot of a rank, found -/
theorem kr_kw_at {kd : Int32} {k : Nat} (hN : N ≤ 16) (hk : k < N) (h0 : A 0 k = kd) : kr_kw A N kd (nI (kr_rk A k N)) N 0 = nI k := by
  have key : ∀ (n pl : Nat), pl + n = N → pl ≤ k → kr_kw A N kd (nI (kr_rk A k N)) n pl = nI k := by
    intro n
    induction n with
    | zero => intro pl h1 h2; omega
    | succ n ih =>
      intro pl h1 h2
      have e : kr_kw A N kd (nI (kr_rk A k N)) (n + 1) pl = if A 0 pl = kd ∧ nI (kr_rk A pl N) = nI (kr_rk A k N) then nI pl else kr_kw A N kd (nI (kr_rk A k N)) n (pl + 1) := rfl
      rw [e]
      by_cases hp : pl = k
      · subst hp; rw [if_pos ⟨h0, rfl⟩]
      · rw [if_neg (fun z => hp ?_)]
        · exact ih (pl + 1) (by omega) (by omega)
        · have l1 := kr_rk_le (A := A) (k := pl) N
          have l2 := kr_rk_le (A := A) (k := k) N
          exact kr_rk_inj (by omega) hk (z.1.trans h0.symm) ((nI_eq (by omega) (by omega)).mp z.2)
  exact key N 0 (by omega) (Nat.zero_le _)
theorem kr_lh_cg {A' : Nat → Nat → Int32} {g : Int32 → Int32} (h3 : A' 3 = A 3) (h4 : A' 4 = A 4) : ∀ (n : Nat) (x h : Int32), kr_lh A' g n x h = kr_lh A g n x h
  | 0, _, _ => rfl
  | n + 1, x, h => by
    have he : kr_en A' x = kr_en A x := by unfold kr_en; rw [h3]
    rw [kr_lh_e, kr_lh_e, h4, he, kr_lh_cg h3 h4 n, kr_lh_cg h3 h4 n]
theorem kr_rk_cg {A' : Nat → Nat → Int32} (h0 : A' 0 = A 0) (h1 : A' 1 = A 1) (h2 : A' 2 = A 2) (k : Nat) : ∀ n, kr_rk A' k n = kr_rk A k n
  | 0 => rfl
  | n + 1 => by
    rw [kr_rk_s, kr_rk_s, kr_rk_cg h0 h1 h2 k n]
    unfold kr_ah kr_ia
    rw [h0, h1, h2]
/-- with another knot at a place -/
theorem kr_lw_rA (q pl k : Nat) : ∀ (n i : Nat) (c : Int32), i + n < 2 ^ 31 → pl < 2 ^ 31 → kr_lw A q (nI pl) (nI k) n i c = kr_uw (kr_rA A (5 * q + pl) k) q n i c
  | 0, _, _, _, _ => rfl
  | n + 1, i, c, h, hp => by
    show kr_lw A q (nI pl) (nI k) n (i + 1) _ = kr_uw (kr_rA A (5 * q + pl) k) q n (i + 1) _
    rw [kr_lw_rA q pl k n (i + 1) _ (by omega) hp]
    have e1 : (if nI i = nI pl then nI k else A 6 (5 * q + i)) = (kr_rA A (5 * q + pl) k) 6 (5 * q + i) := by
      show _ = upd (A 6) (5 * q + pl) (nI k) (5 * q + i)
      by_cases e : i = pl
      · rw [e, if_pos rfl, pk_us]
      · rw [if_neg (fun z => e ((nI_eq (by omega) hp).mp z)), pk_un (by omega)]
    have e2 : kr_st (kr_rA A (5 * q + pl) k) q i = kr_st A q i := rfl
    rw [e1, e2, kr_lh_cg (A := A) (A' := kr_rA A (5 * q + pl) k) (show kr_rA A (5 * q + pl) k 3 = A 3 from rfl) (show kr_rA A (5 * q + pl) k 4 = A 4 from rfl)]
theorem kr_lu_rA {q pl : Nat} (k : Nat) (hw : kr_wf N L A) (hq : q < L) (hp : pl < kr_rc A q) : kr_lu A q (nI pl) (nI k) = kr_hu (kr_rA A (5 * q + pl) k) q := by
  obtain ⟨hrc, er⟩ := hw.rc hq
  have h5 : ¬ A 5 q = 0 := by rw [er]; exact nI_ne0 (by omega) (by omega)
  unfold kr_lu kr_hu
  rw [if_neg h5, show (kr_rA A (5 * q + pl) k) 5 q = A 5 q from rfl, if_neg h5, show kr_rc (kr_rA A (5 * q + pl) k) q = kr_rc A q from rfl]
  exact kr_lw_rA q pl k _ 0 _ (by omega) (by omega)
end KRB
section KRB2
variable {N L q i0 : Nat} {A : Nat → Nat → Int32} {kd : Int32} {w : Nat → Int32}
/-- b is the best of the knots of S -/
def kr_bp (A : Nat → Nat → Int32) (N : Nat) (kd : Int32) (w : Nat → Int32) (S : Nat → Prop) (b g : Int32) : Prop := ∃ j, j < N ∧ A 0 j = kd ∧ S j ∧ b = nI j ∧ g = w j ∧ ∀ k, k < N → A 0 k = kd → S k → (w k).toInt < (w j).toInt ∨ (w k).toInt = (w j).toInt ∧ kr_rk A j N ≤ kr_rk A k N
theorem kr_bp_one {b b' g g' : Int32} (h1 : kr_bp A N kd w (fun _ => True) b g) (h2 : kr_bp A N kd w (fun _ => True) b' g') : b = b' := by
  obtain ⟨j, a1, a2, -, a3, a4, a5⟩ := h1
  obtain ⟨i, b1, b2, -, b3, b4, b5⟩ := h2
  have c1 := a5 i b1 b2 trivial
  have c2 := b5 j a1 a2 trivial
  have : j = i := kr_rk_inj a1 b1 (a2.trans b2.symm) (by omega)
  rw [a3, b3, this]
theorem kr_bs_ok {z0 : Int32} (hN : N ≤ 16) (hw0 : ∀ k, w k = kr_lu A q z0 (nI k)) (hnn : ∀ k, ¬ w k ≤ -1) : ∀ (n r : Nat) (b g : Int32), r + n = kr_cn A kd N → (r = 0 ∧ b = -1 ∧ g = -1 ∨ kr_bp A N kd w (fun i => kr_rk A i N < r) b g) → (kr_bs A N q z0 kd n r b g = -1 ∧ kr_cn A kd N = 0) ∨ ∃ g', kr_bp A N kd w (fun _ => True) (kr_bs A N q z0 kd n r b g) g'
  | 0, r, b, g, hr, h => by
    show (b = -1 ∧ _) ∨ ∃ g', kr_bp A N kd w (fun _ => True) b g'
    rcases h with ⟨h1, h2, h3⟩ | ⟨j, a1, a2, a3, a4, a5, a6⟩
    · exact Or.inl ⟨h2, by omega⟩
    · refine Or.inr ⟨g, j, a1, a2, trivial, a4, a5, fun i h1 h2 _ => a6 i h1 h2 ?_⟩
      have := kr_rk_cn (A := A) h1
      rw [h2] at this
      show kr_rk A i N < r
      omega
  | n + 1, r, b, g, hr, h => by
    obtain ⟨k, k1, k2, k3⟩ := kr_rk_on (A := A) (N := N) (kd := kd) (r := r) (by omega)
    have ek : kr_kw A N kd (nI r) N 0 = nI k := by rw [← k3]; exact kr_kw_at hN k1 k2
    have e : kr_bs A N q z0 kd (n + 1) r b g = if g < kr_lu A q z0 (kr_kw A N kd (nI r) N 0) then kr_bs A N q z0 kd n (r + 1) (kr_kw A N kd (nI r) N 0) (kr_lu A q z0 (kr_kw A N kd (nI r) N 0)) else kr_bs A N q z0 kd n (r + 1) b g := rfl
    rw [e, ek, ← hw0]
    have same : ∀ i, i < N → A 0 i = kd → kr_rk A i N < r + 1 → i = k ∨ kr_rk A i N < r := by
      intro i c1 c2 c3
      by_cases e2 : kr_rk A i N = r
      · exact Or.inl (kr_rk_inj c1 k1 (c2.trans k2.symm) (e2.trans k3.symm))
      · exact Or.inr (by omega)
    by_cases hg : g < w k
    · rw [if_pos hg]
      refine kr_bs_ok hN hw0 hnn n (r + 1) (nI k) (w k) (by omega) (Or.inr ⟨k, k1, k2, (show kr_rk A k N < r + 1 by omega), rfl, rfl, fun i c1 c2 c3 => ?_⟩)
      rcases same i c1 c2 c3 with rfl | c4
      · exact Or.inr ⟨rfl, Nat.le_refl _⟩
      · rcases h with ⟨h1, h2, h3⟩ | ⟨j, a1, a2, a3, a4, a5, a6⟩
        · omega
        · have h3 := a6 i c1 c2 c4
          rw [a5, Int32.lt_iff_toInt_lt] at hg
          omega
    · rw [if_neg hg]
      rcases h with ⟨h1, h2, h3⟩ | ⟨j, a1, a2, a3, a4, a5, a6⟩
      · rw [h3] at hg; exact absurd (Int32.not_lt.mp hg) (hnn k)
      · refine kr_bs_ok hN hw0 hnn n (r + 1) b g (by omega) (Or.inr ⟨j, a1, a2, ?_, a4, a5, fun i c1 c2 c3 => ?_⟩)
        · have a3 : kr_rk A j N < r := a3
          show kr_rk A j N < r + 1
          omega
        · have a3 : kr_rk A j N < r := a3
          rcases same i c1 c2 c3 with rfl | c4
          · rw [a5, Int32.lt_iff_toInt_lt] at hg
            omega
          · exact a6 i c1 c2 c4
end KRB2
