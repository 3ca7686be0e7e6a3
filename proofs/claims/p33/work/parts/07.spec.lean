/-! what the calls answer, as functions of the rows: N knots, L lines, A the rows (0 kind, 1 efficiency, 2 crossings, 3 spill load, 4 into, 5 ropes, 6 tied, 7 rope) -/
def kr_ix (x : Int32) : Nat := x.toNatClampNeg
theorem kr_ix_nI {n : Nat} (h : n < 2 ^ 31) : kr_ix (nI n) = n := nI_clamp h
theorem kr_inc (i : Nat) : nI i + Int32.ofInt 1 = nI (i + 1) := nI_1 i
def kr_mx (x y : Int32) : Int32 := if x < y then y else x
def kr_mn (x y : Int32) : Int32 := if y < x then y else x
abbrev kr_go (A : Nat → Nat → Int32) (ld x : Int32) : Prop := x ≠ -1 ∧ A 3 (kr_ix x) ≠ 0 ∧ A 3 (kr_ix x) ≤ ld
def kr_fm (A : Nat → Nat → Int32) (ld : Int32) : Nat → Int32 → Int32
  | 0, x => x
  | f + 1, x => if kr_go A ld x then kr_fm A ld f (A 4 (kr_ix x)) else x
def kr_sp (A : Nat → Nat → Int32) (ld : Int32) : Nat → Int32 → Nat
  | 0, _ => 0
  | f + 1, x => if kr_go A ld x then kr_sp A ld f (A 4 (kr_ix x)) + 1 else 0
def kr_fa (A : Nat → Nat → Int32) : Nat → Int32 → Int32 → Int32
  | 0, _, g => g
  | f + 1, x, g => if x = -1 then g else if A 3 (kr_ix x) = 0 then 0 else kr_fa A f (A 4 (kr_ix x)) (kr_mx g (A 3 (kr_ix x)))
def kr_st (A : Nat → Nat → Int32) (l p : Nat) (x : Int32) : Int32 := (if p = 0 then A 7 (5 * l + p) else kr_mn (A 7 (5 * l + p)) (A 7 (5 * l + p - 1))) * A 1 (kr_ix x) / 100
def kr_en (A : Nat → Nat → Int32) (x : Int32) : Int32 := if A 3 (kr_ix x) = 0 then 999 else A 3 (kr_ix x) - 1
def kr_lh (A : Nat → Nat → Int32) (g : Int32 → Int32) : Nat → Int32 → Int32 → Int32
  | 0, _, h => h
  | f + 1, x, h => if x = -1 then h else if h < kr_en A x then (if g x < kr_en A x then kr_mx h (g x) else kr_lh A g f (A 4 (kr_ix x)) (kr_en A x)) else kr_lh A g f (A 4 (kr_ix x)) h
abbrev kr_ph (A : Nat → Nat → Int32) (l : Nat) (ld : Int32) (p : Nat) : Prop := kr_fm A ld 16 (A 6 (5 * l + p)) ≠ -1 ∧ ld ≤ kr_st A l p (kr_fm A ld 16 (A 6 (5 * l + p)))
def kr_fg (A : Nat → Nat → Int32) (l : Nat) (ld : Int32) : Nat → Nat → Int32
  | 0, _ => -1
  | n + 1, p => if kr_ph A l ld p then kr_fg A l ld n (p + 1) else nI p
def kr_rc (A : Nat → Nat → Int32) (l : Nat) : Nat := kr_ix (A 5 l)
def kr_gw (A : Nat → Nat → Int32) (l : Nat) (ld : Int32) : Int32 := kr_fg A l ld (kr_rc A l) 0
def kr_lw (A : Nat → Nat → Int32) (l : Nat) (q kn : Int32) : Nat → Nat → Int32 → Int32
  | 0, _, c => c
  | n + 1, p, c => kr_lw A l q kn n (p + 1) (kr_mn c (kr_lh A (kr_st A l p) 16 (if nI p = q then kn else A 6 (5 * l + p)) 0))
def kr_lu (A : Nat → Nat → Int32) (l : Nat) (q kn : Int32) : Int32 := if A 5 l = 0 then 0 else kr_lw A l q kn (kr_rc A l) 0 999
def kr_uw (A : Nat → Nat → Int32) (l : Nat) : Nat → Nat → Int32 → Int32
  | 0, _, c => c
  | n + 1, p, c => kr_uw A l n (p + 1) (kr_mn c (kr_lh A (kr_st A l p) 16 (A 6 (5 * l + p)) 0))
def kr_hu (A : Nat → Nat → Int32) (l : Nat) : Int32 := kr_uw A l (kr_rc A l) 0 (if A 5 l = 0 then 0 else 999)
abbrev kr_ia (A : Nat → Nat → Int32) (j k : Nat) : Prop := if A 1 j = A 1 k then (if A 2 j = A 2 k then j < k else A 2 j < A 2 k) else A 1 k < A 1 j
abbrev kr_ah (A : Nat → Nat → Int32) (j k : Nat) : Prop := A 0 j = A 0 k ∧ kr_ia A j k
def kr_rk (A : Nat → Nat → Int32) (k : Nat) : Nat → Nat
  | 0 => 0
  | n + 1 => kr_rk A k n + (if kr_ah A n k then 1 else 0)
def kr_kw (A : Nat → Nat → Int32) (N : Nat) (kd rk : Int32) : Nat → Nat → Int32
  | 0, _ => -1
  | n + 1, k => if A 0 k = kd ∧ nI (kr_rk A k N) = rk then nI k else kr_kw A N kd rk n (k + 1)
def kr_cn (A : Nat → Nat → Int32) (kd : Int32) : Nat → Nat
  | 0 => 0
  | n + 1 => kr_cn A kd n + (if A 0 n = kd then 1 else 0)
def kr_nw (A : Nat → Nat → Int32) (l p : Nat) : Int32 := kr_st A l p (A 6 (5 * l + p))
def kr_wk (A : Nat → Nat → Int32) (l : Nat) : Nat → Nat → Int32 → Int32
  | 0, _, b => b
  | n + 1, p, b => kr_wk A l n (p + 1) (if b = -1 ∨ kr_nw A l p < kr_nw A l (kr_ix b) then nI p else b)
def kr_sg (A : Nat → Nat → Int32) : Nat → Nat → Int32 → Int32
  | 0, _, b => b
  | n + 1, l, b => kr_sg A n (l + 1) (if b = -1 ∨ kr_hu A (kr_ix b) < kr_hu A l then nI l else b)
def kr_sm (A : Nat → Nat → Int32) : Nat → Int32
  | 0 => 0
  | n + 1 => kr_sm A n + A 1 n
def kr_me (N : Nat) (A : Nat → Nat → Int32) : UInt64 := if N = 0 then 0 else FP.ddiv (FP.i2d (kr_sm A N)) (FP.i2d (nI N))
def kr_dw (d : Int64) (x : Int32) : Int64 := d * 31 + x.toInt64
def kr_dk (A : Nat → Nat → Int32) (N : Nat) (d : Int64) (k : Nat) : Int64 := kr_dw (kr_dw (kr_dw (kr_dw (kr_dw (kr_dw (kr_dw d (A 0 k)) (A 1 k)) (A 2 k)) (A 3 k)) (A 4 k)) (nI (kr_rk A k N))) (kr_fa A 16 (nI k) 0)
def kr_dp (A : Nat → Nat → Int32) (l : Nat) : Nat → Nat → Int64 → Int64
  | 0, _, d => d
  | n + 1, p, d => kr_dp A l n (p + 1) (kr_dw (kr_dw d (A 6 (5 * l + p))) (kr_nw A l p))
def kr_dl (A : Nat → Nat → Int32) (d : Int64) (l : Nat) : Int64 := kr_dp A l (kr_rc A l) 0 (kr_dw (kr_dw (kr_dw d (A 5 l)) (kr_hu A l)) (kr_wk A l (kr_rc A l) 0 (-1)))
def kr_dks (A : Nat → Nat → Int32) (N : Nat) : Nat → Nat → Int64 → Int64
  | 0, _, d => d
  | n + 1, k, d => kr_dks A N n (k + 1) (kr_dk A N d k)
def kr_dls (A : Nat → Nat → Int32) : Nat → Nat → Int64 → Int64
  | 0, _, d => d
  | n + 1, l, d => kr_dls A n (l + 1) (kr_dl A d l)
def kr_dg (N L : Nat) (A : Nat → Nat → Int32) : Int64 := kr_dls A L 0 (kr_dks A N N 0 (kr_dw (kr_dw (kr_dw 2063 (nI N)) (nI L)) (kr_sg A L 0 (-1))))
/-- a knot or none -/
abbrev kr_kn (N : Nat) (x : Int32) : Prop := x = -1 ∨ ∃ j, j < N ∧ x = nI j
/-- the rows are in order -/
def kr_wf (N L : Nat) (A : Nat → Nat → Int32) : Prop := N ≤ 16 ∧ L ≤ 6 ∧
  (∀ k, k < N → (A 0 k = 0 ∨ A 0 k = 1) ∧ (A 4 k = -1 ∨ ∃ j, j < k ∧ A 4 k = nI j) ∧ (∃ q, q ≤ 999 ∧ A 3 k = nI q) ∧ (A 3 k = 0 → A 4 k = -1)) ∧
  (∀ l, l < L → ∃ r, r ≤ 5 ∧ A 5 l = nI r ∧ ∀ p, p < r → ∃ k, k < N ∧ A 6 (5 * l + p) = nI k)
section KRS
variable {N L : Nat} {A : Nat → Nat → Int32}
theorem kr_wf.kn (h : kr_wf N L A) {k : Nat} (hk : k < N) : kr_kn N (A 4 k) := by
  rcases (h.2.2.1 k hk).2.1 with e | ⟨j, hj, e⟩
  · exact Or.inl e
  · exact Or.inr ⟨j, by omega, e⟩
theorem kr_wf.rc (h : kr_wf N L A) {l : Nat} (hl : l < L) : kr_rc A l ≤ 5 ∧ A 5 l = nI (kr_rc A l) := by
  obtain ⟨r, h1, h2, -⟩ := h.2.2.2 l hl
  have e : kr_rc A l = r := by unfold kr_rc; rw [h2, kr_ix_nI (by omega)]
  rw [e]; exact ⟨h1, h2⟩
theorem kr_wf.tk (h : kr_wf N L A) {l p : Nat} (hl : l < L) (hp : p < kr_rc A l) : ∃ k, k < N ∧ A 6 (5 * l + p) = nI k := by
  obtain ⟨r, h1, h2, h3⟩ := h.2.2.2 l hl
  have e : kr_rc A l = r := by unfold kr_rc; rw [h2, kr_ix_nI (by omega)]
  exact h3 p (by omega)
theorem kr_wf.tn (h : kr_wf N L A) {l p : Nat} (hl : l < L) (hp : p < kr_rc A l) : kr_kn N (A 6 (5 * l + p)) := Or.inr (h.tk hl hp)
theorem kr_kn_ne {j : Nat} (h : j < 2 ^ 31) : nI j ≠ -1 := by
  intro e
  have h1 := nI_toInt h
  rw [e] at h1
  have h2 : (-1 : Int32).toInt = -1 := by decide
  omega
theorem kr_if0 {P : Prop} [Decidable P] (h : (if P then (1 : Int32) else 0) = 0) : ¬ P := by
  intro hp; rw [if_pos hp] at h; exact absurd h (by decide)
theorem kr_if1 {P : Prop} [Decidable P] (h : ¬ (if P then (1 : Int32) else 0) = 0) : P := by
  refine Decidable.byContradiction (fun hp => h ?_); rw [if_neg hp]
theorem kr_b01 {P : Prop} [Decidable P] : (if P then (1 : Int32) else 0) = 0 ∨ (if P then (1 : Int32) else 0) = 1 := by
  by_cases h : P
  · right; rw [if_pos h]
  · left; rw [if_neg h]
theorem kr_lt {a b : Nat} (ha : a < 2 ^ 31) (hb : b < 2 ^ 31) (h : ¬ nI b ≤ nI a) : a < b := by
  rcases Nat.lt_or_ge a b with q | q
  · exact q
  · exact absurd (nI_le q ha) h
theorem kr_ge {a b : Nat} (ha : a < 2 ^ 31) (hb : b < 2 ^ 31) (h : nI b ≤ nI a) : b ≤ a := (nI_leI hb ha).mp h
end KRS
section KRT
variable {N : Nat} {x y : Int32}
theorem kr_isK (hN : N ≤ 16) (h : kr_kn N x) (hx : ¬ x < 0 ∧ ¬ nI N ≤ x) : ∃ j, j < N ∧ x = nI j := by
  rcases h with rfl | h
  · exact absurd (by decide) hx.1
  · exact h
theorem kr_isK2 (hN : N ≤ 16) (h : kr_kn N x) (hx : x ≠ -1) : ¬ x < 0 ∧ ¬ nI N ≤ x := by
  rcases h with rfl | ⟨j, hj, rfl⟩
  · exact absurd rfl hx
  · exact ⟨nI_pos (by omega), nI_ge hj (by omega)⟩
theorem kr_ngt (h : y < x) : ¬ x ≤ y := Int32.not_le.mpr h
theorem kr_nlt (h : ¬ y < x) : x ≤ y := Int32.not_lt.mp h
end KRT
section KRU
variable {N L : Nat} {A : Nat → Nat → Int32} {ld x : Int32} {i j k n : Nat}
theorem kr_go_nI (h : j < 2 ^ 31) : kr_go A ld (nI j) ↔ A 3 j ≠ 0 ∧ A 3 j ≤ ld := by
  unfold kr_go; rw [kr_ix_nI h]; exact ⟨fun q => q.2, fun q => ⟨kr_kn_ne h, q⟩⟩
theorem kr_go_kn (hN : N ≤ 16) (h : kr_kn N x) (hg : kr_go A ld x) : ∃ j, j < N ∧ x = nI j := by
  rcases h with rfl | h
  · exact absurd rfl hg.1
  · exact h
theorem kr_fm_no (hg : ¬ kr_go A ld x) : ∀ n, kr_fm A ld n x = x
  | 0 => rfl
  | n + 1 => if_neg hg
theorem kr_fm_go (hi : i < 16) (hj : j < 2 ^ 31) (hg : kr_go A ld (nI j)) : kr_fm A ld (16 - i) (nI j) = kr_fm A ld (16 - (i + 1)) (A 4 j) := by
  obtain ⟨n, h1, h2⟩ : ∃ n, 16 - i = n + 1 ∧ 16 - (i + 1) = n := ⟨16 - (i + 1), by omega, rfl⟩
  rw [h1, h2]; show (if _ then _ else _) = _; rw [if_pos hg, kr_ix_nI hj]
theorem kr_sp_no (hg : ¬ kr_go A ld x) : ∀ n, kr_sp A ld n x = 0
  | 0 => rfl
  | n + 1 => if_neg hg
theorem kr_sp_go (hi : i < 16) (hj : j < 2 ^ 31) (hg : kr_go A ld (nI j)) : kr_sp A ld (16 - i) (nI j) = kr_sp A ld (16 - (i + 1)) (A 4 j) + 1 := by
  obtain ⟨n, h1, h2⟩ : ∃ n, 16 - i = n + 1 ∧ 16 - (i + 1) = n := ⟨16 - (i + 1), by omega, rfl⟩
  rw [h1, h2]; show (if _ then _ else _) = _; rw [if_pos hg, kr_ix_nI hj]
theorem kr_fa_no {g : Int32} : ∀ n, kr_fa A n (-1) g = g
  | 0 => rfl
  | n + 1 => if_pos rfl
theorem kr_fa_0 {g : Int32} (hi : i < 16) (hj : j < 2 ^ 31) (h0 : A 3 j = 0) : kr_fa A (16 - i) (nI j) g = 0 := by
  obtain ⟨n, h1⟩ : ∃ n, 16 - i = n + 1 := ⟨16 - (i + 1), by omega⟩
  rw [h1]; show (if _ then _ else _) = _; rw [if_neg (kr_kn_ne hj), kr_ix_nI hj, if_pos h0]
theorem kr_fa_s {g : Int32} (hi : i < 16) (hj : j < 2 ^ 31) (h0 : ¬ A 3 j = 0) : kr_fa A (16 - i) (nI j) g = kr_fa A (16 - (i + 1)) (A 4 j) (kr_mx g (A 3 j)) := by
  obtain ⟨n, h1, h2⟩ : ∃ n, 16 - i = n + 1 ∧ 16 - (i + 1) = n := ⟨16 - (i + 1), by omega, rfl⟩
  rw [h1, h2]; show (if _ then _ else _) = _; rw [if_neg (kr_kn_ne hj), kr_ix_nI hj, if_neg h0]
theorem kr_isK3 (hN : N ≤ 16) (h : kr_kn N x) (hx : ¬ (¬ x < 0 ∧ ¬ nI N ≤ x)) : x = -1 := Decidable.byContradiction (fun q => hx (kr_isK2 hN h q))
theorem kr_en_nI (hj : j < 2 ^ 31) : kr_en A (nI j) = if A 3 j = 0 then 999 else A 3 j - 1 := by unfold kr_en; rw [kr_ix_nI hj]
theorem kr_lh_no {g : Int32 → Int32} {h : Int32} : ∀ n, kr_lh A g n (-1) h = h
  | 0 => rfl
  | n + 1 => if_pos rfl
theorem kr_lh_s {g : Int32 → Int32} {h : Int32} (hi : i < 16) (hj : j < 2 ^ 31) : kr_lh A g (16 - i) (nI j) h = if h < kr_en A (nI j) then (if g (nI j) < kr_en A (nI j) then kr_mx h (g (nI j)) else kr_lh A g (16 - (i + 1)) (A 4 j) (kr_en A (nI j))) else kr_lh A g (16 - (i + 1)) (A 4 j) h := by
  obtain ⟨n, h1, h2⟩ : ∃ n, 16 - i = n + 1 ∧ 16 - (i + 1) = n := ⟨16 - (i + 1), by omega, rfl⟩
  rw [h1, h2]; show (if _ then _ else _) = _; rw [if_neg (kr_kn_ne hj), kr_ix_nI hj]
theorem kr_fm_kn (hw : kr_wf N L A) : ∀ (n : Nat) (x : Int32), kr_kn N x → kr_kn N (kr_fm A ld n x)
  | 0, x, h => h
  | n + 1, x, h => by
    show kr_kn N (if _ then _ else _)
    by_cases hg : kr_go A ld x
    · rw [if_pos hg]
      obtain ⟨j, hj, rfl⟩ := kr_go_kn hw.1 h hg
      have := hw.1
      rw [kr_ix_nI (by omega)]
      exact kr_fm_kn hw n _ (hw.kn hj)
    · rw [if_neg hg]; exact h
theorem kr_kn_of (hN : N ≤ 16) (h : kr_kn N x) (hx : x ≠ -1) : ∃ j, j < N ∧ x = nI j := by
  rcases h with rfl | h
  · exact absurd rfl hx
  · exact h
theorem kr_st_0 {pl : Nat} (h : pl = 0) (hk : k < 2 ^ 31) : kr_st A n pl (nI k) = A 7 (5 * n + pl) * A 1 k / 100 := by unfold kr_st; rw [if_pos h, kr_ix_nI hk]
theorem kr_st_s {pl : Nat} (h : ¬ pl = 0) (hk : k < 2 ^ 31) : kr_st A n pl (nI k) = kr_mn (A 7 (5 * n + pl)) (A 7 (5 * n + pl - 1)) * A 1 k / 100 := by unfold kr_st; rw [if_neg h, kr_ix_nI hk]
theorem kr_fg_no {n pl q : Nat} (h : ¬ kr_ph A q ld pl) (hn : pl < n) : kr_fg A q ld (n - pl) pl = nI pl := by
  obtain ⟨m, h1⟩ : ∃ m, n - pl = m + 1 := ⟨n - (pl + 1), by omega⟩
  rw [h1]; exact if_neg h
theorem kr_fg_s {n pl q : Nat} (h : kr_ph A q ld pl) (hn : pl < n) : kr_fg A q ld (n - pl) pl = kr_fg A q ld (n - (pl + 1)) (pl + 1) := by
  obtain ⟨m, h1, h2⟩ : ∃ m, n - pl = m + 1 ∧ n - (pl + 1) = m := ⟨n - (pl + 1), by omega, rfl⟩
  rw [h1, h2]; exact if_pos h
theorem kr_lw_s {n pl q : Nat} {z kn g : Int32} (hn : pl < n) : kr_lw A q z kn (n - pl) pl g = kr_lw A q z kn (n - (pl + 1)) (pl + 1) (kr_mn g (kr_lh A (kr_st A q pl) 16 (if nI pl = z then kn else A 6 (5 * q + pl)) 0)) := by
  obtain ⟨m, h1, h2⟩ : ∃ m, n - pl = m + 1 ∧ n - (pl + 1) = m := ⟨n - (pl + 1), by omega, rfl⟩
  rw [h1, h2]; rfl
theorem kr_cn_s {kd : Int32} : kr_cn A kd (n + 1) = kr_cn A kd n + (if A 0 n = kd then 1 else 0) := rfl
theorem kr_rk_s : kr_rk A k (n + 1) = kr_rk A k n + (if kr_ah A n k then 1 else 0) := rfl
theorem kr_cn_le {kd : Int32} : ∀ n, kr_cn A kd n ≤ n
  | 0 => Nat.le_refl _
  | n + 1 => by have := kr_cn_le (kd := kd) n; rw [kr_cn_s]; split <;> omega
theorem kr_rk_le : ∀ n, kr_rk A k n ≤ n
  | 0 => Nat.le_refl _
  | n + 1 => by have := kr_rk_le n; rw [kr_rk_s]; split <;> omega
theorem kr_kw_s {kd rk : Int32} {n pl : Nat} (hn : pl < n) (h : ¬ (A 0 pl = kd ∧ nI (kr_rk A pl N) = rk)) : kr_kw A N kd rk (n - pl) pl = kr_kw A N kd rk (n - (pl + 1)) (pl + 1) := by
  obtain ⟨m, h1, h2⟩ : ∃ m, n - pl = m + 1 ∧ n - (pl + 1) = m := ⟨n - (pl + 1), by omega, rfl⟩
  rw [h1, h2]; exact if_neg h
theorem kr_kw_y {kd rk : Int32} {n pl : Nat} (hn : pl < n) (h : A 0 pl = kd ∧ nI (kr_rk A pl N) = rk) : kr_kw A N kd rk (n - pl) pl = nI pl := by
  obtain ⟨m, h1⟩ : ∃ m, n - pl = m + 1 := ⟨n - (pl + 1), by omega⟩
  rw [h1]; exact if_pos h
theorem kr_kw_kn {kd rk : Int32} : ∀ (n pl : Nat), pl + n ≤ N → kr_kn N (kr_kw A N kd rk n pl)
  | 0, _, _ => Or.inl rfl
  | n + 1, pl, h => by
    show kr_kn N (if _ then _ else _)
    split
    · exact Or.inr ⟨pl, by omega, rfl⟩
    · exact kr_kw_kn n (pl + 1) (by omega)
end KRU
theorem kr_ngt2 {x y : Int32} (h : x ≤ y) : ¬ y < x := Int32.not_lt.mpr h
theorem kr_nle2 {x y : Int32} (h : ¬ x ≤ y) : y < x := Int32.not_le.mp h
theorem kr_d100 (x : Int32) : x / 100 < 2147483647 := by
  have key : ∀ y : Int, 0 ≤ y → y ≤ 2147483648 → y.tdiv 100 ≤ 21474836 ∧ 0 ≤ y.tdiv 100 := fun y h1 h2 => by rw [Int.tdiv_eq_ediv_of_nonneg h1]; omega
  rw [Int32.lt_iff_toInt_lt, Int32.toInt_div, show (100 : Int32).toInt = 100 by decide, show (2147483647 : Int32).toInt = 2147483647 by decide]
  have h1 := Int32.toInt_lt x
  have h2 := Int32.le_toInt x
  rcases Int.le_total 0 x.toInt with h | h
  · have := key x.toInt h (by omega)
    rw [Int.bmod_eq_of_le (by omega) (by omega)]; omega
  · have e : x.toInt.tdiv 100 = -((-x.toInt).tdiv 100) := by rw [Int.neg_tdiv]; omega
    have := key (-x.toInt) (by omega) (by omega)
    rw [e, Int.bmod_eq_of_le (by omega) (by omega)]; omega
section KRV
variable {N L : Nat} {A : Nat → Nat → Int32}
theorem kr_nw_lt (q pl : Nat) : kr_nw A q pl < 2147483647 := kr_d100 _
theorem kr_lw_uw (q : Nat) : ∀ (n pl : Nat) (c : Int32), pl + n < 2 ^ 31 → kr_lw A q (-1) (-1) n pl c = kr_uw A q n pl c
  | 0, _, _, _ => rfl
  | n + 1, pl, c, h => by
    show kr_lw A q (-1) (-1) n (pl + 1) _ = kr_uw A q n (pl + 1) _
    rw [if_neg (kr_kn_ne (by omega))]
    exact kr_lw_uw q n (pl + 1) _ (by omega)
theorem kr_lu_hu (q : Nat) (h : kr_rc A q ≤ 5) : kr_lu A q (-1) (-1) = kr_hu A q := by
  unfold kr_lu kr_hu
  by_cases h0 : A 5 q = 0
  · have hr : kr_rc A q = 0 := by unfold kr_rc; rw [h0]; decide
    rw [if_pos h0, if_pos h0, hr]; rfl
  · rw [if_neg h0, if_neg h0]; exact kr_lw_uw q _ 0 _ (by omega)
theorem kr_mx_nn {x y : Int32} (h : 0 ≤ x) : 0 ≤ kr_mx x y := by
  unfold kr_mx; split
  · next h1 => exact Int32.le_trans h (Int32.le_of_lt h1)
  · exact h
theorem kr_mn_nn {x y : Int32} (h : 0 ≤ x) (h2 : 0 ≤ y) : 0 ≤ kr_mn x y := by unfold kr_mn; split <;> assumption
theorem kr_lh_nn {g : Int32 → Int32} : ∀ (n : Nat) (x h : Int32), 0 ≤ h → 0 ≤ kr_lh A g n x h
  | 0, _, _, h0 => h0
  | n + 1, x, h, h0 => by
    rw [kr_lh]
    split
    · exact h0
    · split
      · next h1 =>
        split
        · exact kr_mx_nn h0
        · exact kr_lh_nn n _ _ (Int32.le_trans h0 (Int32.le_of_lt h1))
      · exact kr_lh_nn n _ _ h0
theorem kr_uw_nn (q : Nat) : ∀ (n pl : Nat) (c : Int32), 0 ≤ c → 0 ≤ kr_uw A q n pl c
  | 0, _, _, h => h
  | n + 1, pl, c, h => kr_uw_nn q n (pl + 1) _ (kr_mn_nn h (kr_lh_nn _ _ _ (by decide)))
theorem kr_hu_nn (q : Nat) : ¬ kr_hu A q ≤ -1 := by
  have h : (0 : Int32) ≤ kr_hu A q := kr_uw_nn q _ _ _ (by split <;> decide)
  intro h2
  exact absurd (Int32.le_trans h h2) (by decide)
theorem kr_wk_s {n pl q : Nat} {b : Int32} (hn : pl < n) : kr_wk A q (n - pl) pl b = kr_wk A q (n - (pl + 1)) (pl + 1) (if b = -1 ∨ kr_nw A q pl < kr_nw A q (kr_ix b) then nI pl else b) := by
  obtain ⟨m, h1, h2⟩ : ∃ m, n - pl = m + 1 ∧ n - (pl + 1) = m := ⟨n - (pl + 1), by omega, rfl⟩
  rw [h1, h2]; rfl
theorem kr_sg_s {n q : Nat} {b : Int32} (hn : q < n) : kr_sg A (n - q) q b = kr_sg A (n - (q + 1)) (q + 1) (if b = -1 ∨ kr_hu A (kr_ix b) < kr_hu A q then nI q else b) := by
  obtain ⟨m, h1, h2⟩ : ∃ m, n - q = m + 1 ∧ n - (q + 1) = m := ⟨n - (q + 1), by omega, rfl⟩
  rw [h1, h2]; rfl
theorem kr_dp_s {n pl q : Nat} {d : Int64} (hn : pl < n) : kr_dp A q (n - pl) pl d = kr_dp A q (n - (pl + 1)) (pl + 1) (kr_dw (kr_dw d (A 6 (5 * q + pl))) (kr_nw A q pl)) := by
  obtain ⟨m, h1, h2⟩ : ∃ m, n - pl = m + 1 ∧ n - (pl + 1) = m := ⟨n - (pl + 1), by omega, rfl⟩
  rw [h1, h2]; rfl
theorem kr_dks_s {n k : Nat} {d : Int64} (hn : k < n) : kr_dks A N (n - k) k d = kr_dks A N (n - (k + 1)) (k + 1) (kr_dk A N d k) := by
  obtain ⟨m, h1, h2⟩ : ∃ m, n - k = m + 1 ∧ n - (k + 1) = m := ⟨n - (k + 1), by omega, rfl⟩
  rw [h1, h2]; rfl
theorem kr_dls_s {n k : Nat} {d : Int64} (hn : k < n) : kr_dls A (n - k) k d = kr_dls A (n - (k + 1)) (k + 1) (kr_dl A d k) := by
  obtain ⟨m, h1, h2⟩ : ∃ m, n - k = m + 1 ∧ n - (k + 1) = m := ⟨n - (k + 1), by omega, rfl⟩
  rw [h1, h2]; rfl
end KRV
def kr_bs (A : Nat → Nat → Int32) (N q : Nat) (z0 kd : Int32) : Nat → Nat → Int32 → Int32 → Int32
  | 0, _, b, _ => b
  | n + 1, r, b, g => if g < kr_lu A q z0 (kr_kw A N kd (nI r) N 0) then kr_bs A N q z0 kd n (r + 1) (kr_kw A N kd (nI r) N 0) (kr_lu A q z0 (kr_kw A N kd (nI r) N 0)) else kr_bs A N q z0 kd n (r + 1) b g
def kr_kd (pl : Nat) : Int32 := if nI pl = 0 then 1 else 0
def kr_bk (A : Nat → Nat → Int32) (N q pl : Nat) : Int32 := kr_bs A N q (nI pl) (kr_kd pl) (kr_cn A (kr_kd pl) N) 0 (-1) (-1)
theorem kr_bs_s {A : Nat → Nat → Int32} {N q n r : Nat} {z0 kd b g : Int32} (hn : r < n) : kr_bs A N q z0 kd (n - r) r b g = if g < kr_lu A q z0 (kr_kw A N kd (nI r) N 0) then kr_bs A N q z0 kd (n - (r + 1)) (r + 1) (kr_kw A N kd (nI r) N 0) (kr_lu A q z0 (kr_kw A N kd (nI r) N 0)) else kr_bs A N q z0 kd (n - (r + 1)) (r + 1) b g := by
  obtain ⟨m, h1, h2⟩ : ∃ m, n - r = m + 1 ∧ n - (r + 1) = m := ⟨n - (r + 1), by omega, rfl⟩
  rw [h1, h2]; rfl
