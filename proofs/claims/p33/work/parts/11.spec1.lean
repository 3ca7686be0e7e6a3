section KRX
variable {N L : Nat} {A : Nat → Nat → Int32} {ld x : Int32} {i j k n : Nat}
theorem kr_pred (hN : N < 2 ^ 30) : nI N - 1 < x ↔ nI N ≤ x := by
  have h1 : (nI N - 1).toInt = (N : Int) - 1 := pk_sub_toInt (a := N) (b := 1) hN (by decide)
  rw [Int32.lt_iff_toInt_lt, Int32.le_iff_toInt_le, h1, nI_toInt (by omega)]; omega
theorem kr_le0 (h : ∃ q, q ≤ 999 ∧ x = nI q) : x ≤ 0 ↔ x = 0 := by
  obtain ⟨q, hq, rfl⟩ := h
  constructor
  · intro h1
    have := (nI_leI (a := q) (b := 0) (by omega) (by decide)).mp h1
    have e : q = 0 := by omega
    rw [e]; rfl
  · intro h1; rw [h1]; decide
/-- a measure of a chain -/
def kr_mz (x : Int32) : Nat := if x = -1 then 0 else kr_ix x + 1
theorem kr_mz_nI (h : j < 2 ^ 31) : kr_mz (nI j) = j + 1 := by unfold kr_mz; rw [if_neg (kr_kn_ne h), kr_ix_nI h]
theorem kr_mz_lt (hw : kr_wf N L A) (hj : j < N) : kr_mz (A 4 j) < kr_mz (nI j) := by
  have := hw.1
  rw [kr_mz_nI (by omega)]
  rcases (hw.2.2.1 j hj).2.1 with e | ⟨q, hq, e⟩
  · rw [e]; show 0 < j + 1; omega
  · rw [e, kr_mz_nI (by omega)]; omega
theorem kr_mz_le (h : kr_kn N x) (hN : N ≤ 16) : kr_mz x ≤ 16 := by
  rcases h with rfl | ⟨j, hj, rfl⟩
  · show 0 ≤ 16; omega
  · rw [kr_mz_nI (by omega)]; omega
theorem kr_fm_e (n : Nat) (x : Int32) : kr_fm A ld (n + 1) x = if kr_go A ld x then kr_fm A ld n (A 4 (kr_ix x)) else x := rfl
theorem kr_sp_e (n : Nat) (x : Int32) : kr_sp A ld (n + 1) x = if kr_go A ld x then kr_sp A ld n (A 4 (kr_ix x)) + 1 else 0 := rfl
theorem kr_fa_e (n : Nat) (x g : Int32) : kr_fa A (n + 1) x g = if x = -1 then g else if A 3 (kr_ix x) = 0 then 0 else kr_fa A n (A 4 (kr_ix x)) (kr_mx g (A 3 (kr_ix x))) := rfl
theorem kr_lh_e (g : Int32 → Int32) (n : Nat) (x h : Int32) : kr_lh A g (n + 1) x h = if x = -1 then h else if h < kr_en A x then (if g x < kr_en A x then kr_mx h (g x) else kr_lh A g n (A 4 (kr_ix x)) (kr_en A x)) else kr_lh A g n (A 4 (kr_ix x)) h := rfl
theorem kr_fm_st (hw : kr_wf N L A) : ∀ (n : Nat) (x : Int32), kr_kn N x → kr_mz x ≤ n → kr_fm A ld (n + 1) x = kr_fm A ld n x
  | 0, x, h, hm => by
    rcases h with rfl | ⟨j, hj, rfl⟩
    · exact kr_fm_no (fun q => q.1 rfl) 1
    · have := hw.1; rw [kr_mz_nI (by omega)] at hm; omega
  | n + 1, x, h, hm => by
    by_cases hg : kr_go A ld x
    · obtain ⟨j, hj, rfl⟩ := kr_go_kn hw.1 h hg
      have := hw.1
      have h1 := kr_mz_lt hw hj
      rw [kr_fm_e (n + 1) (nI j), kr_fm_e n (nI j), if_pos hg, if_pos hg, kr_ix_nI (by omega)]
      exact kr_fm_st hw n _ (hw.kn hj) (by omega)
    · rw [kr_fm_no hg, kr_fm_no hg]
theorem kr_fm_16 (hw : kr_wf N L A) (hj : j < N) (hg : kr_go A ld (nI j)) : kr_fm A ld 16 (nI j) = kr_fm A ld 16 (A 4 j) := by
  have := hw.1
  have h1 := kr_mz_lt hw hj
  rw [kr_mz_nI (by omega)] at h1
  rw [kr_fm_st hw 15 _ (hw.kn hj) (by omega)]
  exact kr_fm_go (i := 0) (by omega) (by omega) hg
theorem kr_sp_st (hw : kr_wf N L A) : ∀ (n : Nat) (x : Int32), kr_kn N x → kr_mz x ≤ n → kr_sp A ld (n + 1) x = kr_sp A ld n x
  | 0, x, h, hm => by
    rcases h with rfl | ⟨j, hj, rfl⟩
    · exact kr_sp_no (fun q => q.1 rfl) 1
    · have := hw.1; rw [kr_mz_nI (by omega)] at hm; omega
  | n + 1, x, h, hm => by
    by_cases hg : kr_go A ld x
    · obtain ⟨j, hj, rfl⟩ := kr_go_kn hw.1 h hg
      have := hw.1
      have h1 := kr_mz_lt hw hj
      rw [kr_sp_e (n + 1) (nI j), kr_sp_e n (nI j), if_pos hg, if_pos hg, kr_ix_nI (by omega), kr_sp_st hw n _ (hw.kn hj) (by omega)]
    · rw [kr_sp_no hg, kr_sp_no hg]
theorem kr_sp_16 (hw : kr_wf N L A) (hj : j < N) (hg : kr_go A ld (nI j)) : kr_sp A ld 16 (nI j) = kr_sp A ld 16 (A 4 j) + 1 := by
  have := hw.1
  have h1 := kr_mz_lt hw hj
  rw [kr_mz_nI (by omega)] at h1
  rw [kr_sp_st hw 15 _ (hw.kn hj) (by omega)]
  exact kr_sp_go (i := 0) (by omega) (by omega) hg
theorem kr_fa_st (hw : kr_wf N L A) : ∀ (n : Nat) (x g : Int32), kr_kn N x → kr_mz x ≤ n → kr_fa A (n + 1) x g = kr_fa A n x g
  | 0, x, g, h, hm => by
    rcases h with rfl | ⟨j, hj, rfl⟩
    · exact kr_fa_no 1
    · have := hw.1; rw [kr_mz_nI (by omega)] at hm; omega
  | n + 1, x, g, h, hm => by
    rcases h with rfl | ⟨j, hj, rfl⟩
    · rw [kr_fa_no, kr_fa_no]
    · have := hw.1
      have h1 := kr_mz_lt hw hj
      rw [kr_fa_e (n + 1) (nI j), kr_fa_e n (nI j), kr_ix_nI (by omega), kr_fa_st hw n _ _ (hw.kn hj) (by omega)]
theorem kr_fa_16 (hw : kr_wf N L A) (hj : j < N) {g : Int32} (h0 : ¬ A 3 j = 0) : kr_fa A 16 (nI j) g = kr_fa A 16 (A 4 j) (kr_mx g (A 3 j)) := by
  have := hw.1
  have h1 := kr_mz_lt hw hj
  rw [kr_mz_nI (by omega)] at h1
  rw [kr_fa_st hw 15 _ _ (hw.kn hj) (by omega)]
  exact kr_fa_s (i := 0) (by omega) (by omega) h0
theorem kr_lh_st (hw : kr_wf N L A) {g : Int32 → Int32} : ∀ (n : Nat) (x h : Int32), kr_kn N x → kr_mz x ≤ n → kr_lh A g (n + 1) x h = kr_lh A g n x h
  | 0, x, h, hk, hm => by
    rcases hk with rfl | ⟨j, hj, rfl⟩
    · exact kr_lh_no 1
    · have := hw.1; rw [kr_mz_nI (by omega)] at hm; omega
  | n + 1, x, h, hk, hm => by
    rcases hk with rfl | ⟨j, hj, rfl⟩
    · rw [kr_lh_no, kr_lh_no]
    · have := hw.1
      have h1 := kr_mz_lt hw hj
      rw [kr_lh_e g (n + 1) (nI j), kr_lh_e g n (nI j), kr_ix_nI (by omega), kr_lh_st hw n _ _ (hw.kn hj) (by omega), kr_lh_st hw n _ _ (hw.kn hj) (by omega)]
theorem kr_lh_16 (hw : kr_wf N L A) (hj : j < N) {g : Int32 → Int32} {h : Int32} : kr_lh A g 16 (nI j) h = if h < kr_en A (nI j) then (if g (nI j) < kr_en A (nI j) then kr_mx h (g (nI j)) else kr_lh A g 16 (A 4 j) (kr_en A (nI j))) else kr_lh A g 16 (A 4 j) h := by
  have := hw.1
  have h1 := kr_mz_lt hw hj
  rw [kr_mz_nI (by omega)] at h1
  rw [kr_lh_st hw 15 _ _ (hw.kn hj) (by omega), kr_lh_st hw 15 _ _ (hw.kn hj) (by omega)]
  exact kr_lh_s (i := 0) (by omega) (by omega)
/-- a place that holds to the most: nothing comes behind -/
theorem kr_lh_end (hw : kr_wf N L A) (hj : j < N) {g : Int32 → Int32} (he : kr_en A (nI j) = 999) : kr_lh A g 16 (A 4 j) 999 = 999 := by
  have := hw.1
  obtain ⟨-, -, ⟨q, hq, eq⟩, h0⟩ := hw.2.2.1 j hj
  rw [kr_en_nI (by omega)] at he
  by_cases h3 : A 3 j = 0
  · rw [h0 h3]; exact kr_lh_no _
  · rw [if_neg h3, eq] at he
    cases q with
    | zero => exact absurd (eq.trans nI_0) h3
    | succ q =>
      rw [nI_pred] at he
      have := (nI_eq (a := q) (b := 999) (by omega) (by decide)).mp he
      omega
theorem kr_uw_s {n pl q : Nat} {g : Int32} (hn : pl < n) : kr_uw A q (n - pl) pl g = kr_uw A q (n - (pl + 1)) (pl + 1) (kr_mn g (kr_lh A (kr_st A q pl) 16 (A 6 (5 * q + pl)) 0)) := by
  obtain ⟨m, h1, h2⟩ : ∃ m, n - pl = m + 1 ∧ n - (pl + 1) = m := ⟨n - (pl + 1), by omega, rfl⟩
  rw [h1, h2]; rfl
end KRX
theorem kr_inL {L : Nat} {x : Int32} (hL : L ≤ 6) (h : ¬ x < 0 ∧ ¬ nI L ≤ x) : ∃ q, q < L ∧ x = nI q := by
  rcases pk_ix x (n := L) (by omega) with h1 | h1 | h1
  · exact absurd h1 h.1
  · exact absurd h1 h.2
  · exact h1
theorem kr_inN {N : Nat} {x : Int32} (hN : N ≤ 16) (h : ¬ x < 0 ∧ ¬ nI N ≤ x) : ∃ q, q < N ∧ x = nI q := by
  rcases pk_ix x (n := N) (by omega) with h1 | h1 | h1
  · exact absurd h1 h.1
  · exact absurd h1 h.2
  · exact h1
theorem kr_ltne {x y : Int32} (h : x < y) : ¬ x = y := fun e => by rw [e] at h; exact Int32.lt_irrefl h
