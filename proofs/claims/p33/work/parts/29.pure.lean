/-! what the property asks of the answers, as facts of the rows -/
def kr_wx (N L : Nat) (A : Nat → Nat → Int32) : Prop := (0 < N → A 0 0 = 0) ∧ (1 < N → A 0 1 = 1) ∧ (∀ k, k < N → (∃ q, 10 ≤ q ∧ q ≤ 100 ∧ A 1 k = nI q) ∧ (∃ q, 1 ≤ q ∧ q ≤ 9 ∧ A 2 k = nI q) ∧ ∀ j, j < k → A 4 k = nI j → A 0 j = A 0 k) ∧ ∀ q, q < L → ∀ p, p < kr_rc A q → (∃ z, 1 ≤ z ∧ z ≤ 999 ∧ A 7 (5 * q + p) = nI z) ∧ ∀ k, k < N → A 6 (5 * q + p) = nI k → A 0 k = if p = 0 then 1 else 0
theorem kr_wx_we {N L : Nat} {A : Nat → Nat → Int32} (hx : kr_wx N L A) : kr_we N A := fun k hk => by
  obtain ⟨⟨q, h1, h2, h3⟩, -⟩ := hx.2.2.1 k hk
  exact ⟨q, h2, h3⟩
theorem kr_nIne {a b : Nat} (ha : a < 2 ^ 31) (hb : b < 2 ^ 31) (h : a ≠ b) : nI a ≠ nI b := fun e => h ((nI_eq ha hb).mp e)
theorem kr_mxN {a b : Nat} (ha : a < 2 ^ 31) (hb : b < 2 ^ 31) : kr_mx (nI a) (nI b) = nI (max a b) := by
  unfold kr_mx
  by_cases h : a < b
  · rw [if_pos (nI_lt h hb), Nat.max_eq_right (by omega)]
  · rw [if_neg (nI_nlt (by omega) ha), Nat.max_eq_left (by omega)]
theorem kr_mnN {a b : Nat} (ha : a < 2 ^ 31) (hb : b < 2 ^ 31) : kr_mn (nI a) (nI b) = nI (min a b) := by
  unfold kr_mn
  by_cases h : b < a
  · rw [if_pos (nI_lt h ha), Nat.min_eq_right (by omega)]
  · rw [if_neg (nI_nlt (by omega) hb), Nat.min_eq_left (by omega)]
section KRF
variable {N L : Nat} {A : Nat → Nat → Int32} {ld ld2 : Int32}
theorem kr_go_m {x : Int32} (h : ld ≤ ld2) (hg : kr_go A ld x) : kr_go A ld2 x := ⟨hg.1, hg.2.1, Int32.le_trans hg.2.2 h⟩
theorem kr_go_n : ¬ kr_go A ld (-1) := fun q => q.1 rfl
theorem kr_pf1 (hw : kr_wf N L A) (hx : kr_wx N L A) (k : Nat) (hk : k < N) : kr_fm A ld 16 (nI k) = -1 ∨ ∃ j, j ≤ k ∧ kr_fm A ld 16 (nI k) = nI j ∧ A 0 j = A 0 k ∧ ¬ kr_go A ld (nI j) := by
  induction k using Nat.strongRecOn with
  | ind k ih =>
    by_cases hg : kr_go A ld (nI k)
    · rw [kr_fm_16 hw hk hg]
      rcases (hw.2.2.1 k hk).2.1 with e | ⟨j, hj, e⟩
      · rw [e]; exact Or.inl (kr_fm_no kr_go_n 16)
      · rw [e]
        rcases ih j hj (by omega) with h | ⟨i, h1, h2, h3, h4⟩
        · exact Or.inl h
        · exact Or.inr ⟨i, by omega, h2, h3.trans ((hx.2.2.1 k hk).2.2 j hj e), h4⟩
    · exact Or.inr ⟨k, Nat.le_refl _, kr_fm_no hg 16, rfl, hg⟩
theorem kr_pf2 (hw : kr_wf N L A) (hx : kr_wx N L A) {k : Nat} (hk : k < N) : kr_fm A ld 16 (nI k) = nI k ↔ kr_sp A ld 16 (nI k) = 0 := by
  have h16 := hw.1
  by_cases hg : kr_go A ld (nI k)
  · rw [kr_fm_16 hw hk hg, kr_sp_16 hw hk hg]
    constructor
    · intro e
      exfalso
      rcases (hw.2.2.1 k hk).2.1 with e2 | ⟨j, hj, e2⟩
      · rw [e2, kr_fm_no kr_go_n 16] at e
        exact kr_kn_ne (by omega) e.symm
      · rw [e2] at e
        rcases kr_pf1 (ld := ld) hw hx j (by omega) with h | ⟨i, h1, h2, -, -⟩
        · rw [h] at e; exact kr_kn_ne (by omega) e.symm
        · rw [h2] at e; exact kr_nIne (by omega) (by omega) (by omega) e
    · intro e; omega
  · rw [kr_fm_no hg, kr_sp_no hg]
    exact ⟨fun _ => rfl, fun _ => rfl⟩
theorem kr_sp_le : ∀ (n : Nat) (x : Int32), kr_sp A ld n x ≤ n
  | 0, _ => Nat.le_refl _
  | n + 1, x => by
    rw [kr_sp_e]
    have := kr_sp_le n (A 4 (kr_ix x))
    split <;> omega
theorem kr_pf3 (hw : kr_wf N L A) (hle : ld ≤ ld2) (k : Nat) (hk : k < N) : kr_sp A ld 16 (nI k) ≤ kr_sp A ld2 16 (nI k) := by
  induction k using Nat.strongRecOn with
  | ind k ih =>
    by_cases hg : kr_go A ld (nI k)
    · rw [kr_sp_16 hw hk hg, kr_sp_16 hw hk (kr_go_m hle hg)]
      rcases (hw.2.2.1 k hk).2.1 with e | ⟨j, hj, e⟩
      · rw [e, kr_sp_no kr_go_n, kr_sp_no kr_go_n]; omega
      · rw [e]
        have := ih j hj (by omega)
        omega
    · rw [kr_sp_no hg]; omega
theorem kr_pf4 (hw : kr_wf N L A) (hle : ld ≤ ld2) (k : Nat) (hk : k < N) (h : kr_fm A ld 16 (nI k) = -1) : kr_fm A ld2 16 (nI k) = -1 := by
  have h16 := hw.1
  induction k using Nat.strongRecOn with
  | ind k ih =>
    by_cases hg : kr_go A ld (nI k)
    · rw [kr_fm_16 hw hk hg] at h
      rw [kr_fm_16 hw hk (kr_go_m hle hg)]
      rcases (hw.2.2.1 k hk).2.1 with e | ⟨j, hj, e⟩
      · rw [e, kr_fm_no kr_go_n]
      · rw [e] at h ⊢
        exact ih j hj (by omega) h
    · rw [kr_fm_no hg] at h
      exact absurd h (kr_kn_ne (by omega))
theorem kr_goN (hw : kr_wf N L A) {k : Nat} (hk : k < N) : ∃ q, q ≤ 999 ∧ A 3 k = nI q ∧ (q = 0 → A 4 k = -1) ∧ ∀ d, d ≤ 999 → (kr_go A (nI d) (nI k) ↔ 0 < q ∧ q ≤ d) := by
  have h16 := hw.1
  obtain ⟨-, -, ⟨q, hq, eq⟩, h0⟩ := hw.2.2.1 k hk
  refine ⟨q, hq, eq, fun h => h0 (by rw [eq, h]; rfl), fun d hd => ?_⟩
  rw [kr_go_nI (by omega), eq]
  constructor
  · rintro ⟨h1, h2⟩
    refine ⟨?_, (nI_leI (by omega) (by omega)).mp h2⟩
    rcases Nat.eq_zero_or_pos q with e | e
    · rw [e] at h1; exact absurd rfl h1
    · exact e
  · rintro ⟨h1, h2⟩
    exact ⟨nI_ne0 h1 (by omega), nI_le h2 (by omega)⟩
/-- the load at which it falls apart -/
theorem kr_pf5 (hw : kr_wf N L A) (k : Nat) (hk : k < N) : ∀ g, g ≤ 999 → ∃ z, z ≤ 999 ∧ kr_fa A 16 (nI k) (nI g) = nI z ∧ (z = 0 → ∀ d, d ≤ 999 → kr_fm A (nI d) 16 (nI k) ≠ -1) ∧ (0 < z → g ≤ z ∧ ∀ d, d ≤ 999 → (kr_fm A (nI d) 16 (nI k) = -1 ∧ g ≤ d ↔ z ≤ d)) := by
  have h16 := hw.1
  induction k using Nat.strongRecOn with
  | ind k ih =>
    intro g hg
    obtain ⟨q, hq, eq, hq0, hgo⟩ := kr_goN hw hk
    have hno : ∀ d, d ≤ 999 → ¬ (0 < q ∧ q ≤ d) → kr_fm A (nI d) 16 (nI k) ≠ -1 := fun d hd h => by
      rw [kr_fm_no (fun w => h ((hgo d hd).mp w))]
      exact kr_kn_ne (by omega)
    rcases Nat.eq_zero_or_pos q with e0 | e0
    · refine ⟨0, by omega, ?_, fun _ d hd => hno d hd (by omega), fun h => by omega⟩
      exact kr_fa_0 (i := 0) (by omega) (by omega) (by rw [eq, e0]; rfl)
    · have h3 : ¬ A 3 k = 0 := by rw [eq]; exact nI_ne0 e0 (by omega)
      rw [kr_fa_16 hw hk h3, eq, kr_mxN (by omega) (by omega)]
      rcases (hw.2.2.1 k hk).2.1 with e | ⟨j, hj, e⟩
      · rw [e, kr_fa_no]
        refine ⟨max g q, by omega, rfl, fun h => by omega, fun _ => ⟨by omega, fun d hd => ?_⟩⟩
        by_cases hd2 : q ≤ d
        · rw [kr_fm_16 hw hk ((hgo d hd).mpr ⟨e0, hd2⟩), e, kr_fm_no kr_go_n]
          constructor
          · rintro ⟨-, h⟩; omega
          · intro h; exact ⟨rfl, by omega⟩
        · constructor
          · rintro ⟨h, -⟩; exact absurd h (hno d hd (by omega))
          · intro h; omega
      · rw [e]
        obtain ⟨z, h1, h2, h3, h4⟩ := ih j hj (by omega) (max g q) (by omega)
        refine ⟨z, h1, h2, fun hz d hd => ?_, fun hz => ⟨by have := (h4 hz).1; omega, fun d hd => ?_⟩⟩
        · by_cases hd2 : q ≤ d
          · rw [kr_fm_16 hw hk ((hgo d hd).mpr ⟨e0, hd2⟩), e]
            exact h3 hz d hd
          · exact hno d hd (by omega)
        · obtain ⟨h5, h6⟩ := h4 hz
          by_cases hd2 : q ≤ d
          · rw [kr_fm_16 hw hk ((hgo d hd).mpr ⟨e0, hd2⟩), e, ← h6 d hd]
            constructor
            · rintro ⟨a1, a2⟩; exact ⟨a1, by omega⟩
            · rintro ⟨a1, a2⟩; exact ⟨a1, by omega⟩
          · constructor
            · rintro ⟨h, -⟩; exact absurd h (hno d hd (by omega))
            · intro h; omega
/-- a place under a load -/
def kr_hd (A : Nat → Nat → Int32) (g : Int32 → Int32) (x : Int32) (d : Nat) : Prop := kr_fm A (nI d) 16 x ≠ -1 ∧ nI d ≤ g (kr_fm A (nI d) 16 x)
theorem kr_pl1 (hw : kr_wf N L A) {g : Int32 → Int32} (hg : ∀ j, j < N → ∃ s, s ≤ 999 ∧ g (nI j) = nI s) (k : Nat) (hk : k < N) : ∀ h, h ≤ 999 → ∃ r, h ≤ r ∧ r ≤ 999 ∧ kr_lh A g 16 (nI k) (nI h) = nI r ∧ (∀ d, h < d → d ≤ r → kr_hd A g (nI k) d) ∧ (r < 999 → ¬ kr_hd A g (nI k) (r + 1)) := by
  have h16 := hw.1
  induction k using Nat.strongRecOn with
  | ind k ih =>
    intro h hh
    obtain ⟨q, hq, eq, hq0, hgo0⟩ := kr_goN hw hk
    obtain ⟨e, he, een, hgo⟩ : ∃ e, e ≤ 999 ∧ kr_en A (nI k) = nI e ∧ ∀ d, d ≤ 999 → (kr_go A (nI d) (nI k) ↔ e < d) := by
      rcases Nat.eq_zero_or_pos q with e0 | e0
      · refine ⟨999, by omega, ?_, fun d hd => ?_⟩
        · rw [kr_en_nI (by omega), if_pos (by rw [eq, e0]; rfl)]; rfl
        · rw [hgo0 d hd]; omega
      · refine ⟨q - 1, by omega, ?_, fun d hd => ?_⟩
        · rw [kr_en_nI (by omega), if_neg (by rw [eq]; exact nI_ne0 e0 (by omega)), eq]
          exact pk_sub (a := q) (b := 1) e0
        · rw [hgo0 d hd]; omega
    obtain ⟨s, hs, es⟩ := hg k hk
    have hno : ∀ d, d ≤ 999 → d ≤ e → (kr_hd A g (nI k) d ↔ d ≤ s) := fun d hd h => by
      unfold kr_hd
      rw [kr_fm_no (fun w => absurd ((hgo d hd).mp w) (by omega)), es, nI_leI (by omega) (by omega)]
      exact ⟨fun w => w.2, fun w => ⟨kr_kn_ne (by omega), w⟩⟩
    have tail : ∀ h', e ≤ h' → h' ≤ 999 → ∃ r, h' ≤ r ∧ r ≤ 999 ∧ kr_lh A g 16 (A 4 k) (nI h') = nI r ∧ (∀ d, h' < d → d ≤ r → kr_hd A g (nI k) d) ∧ (r < 999 → ¬ kr_hd A g (nI k) (r + 1)) := by
      intro h' h1 h2
      rcases (hw.2.2.1 k hk).2.1 with e1 | ⟨j, hj, e1⟩
      · rw [e1, kr_lh_no]
        refine ⟨h', Nat.le_refl _, h2, rfl, fun d h3 h4 => by omega, fun h3 => ?_⟩
        unfold kr_hd
        rw [kr_fm_16 hw hk ((hgo (h' + 1) (by omega)).mpr (by omega)), e1, kr_fm_no kr_go_n]
        exact fun w => w.1 rfl
      · rw [e1]
        obtain ⟨r, a1, a2, a3, a4, a5⟩ := ih j hj (by omega) h' h2
        have same : ∀ d, h' < d → d ≤ 999 → (kr_hd A g (nI k) d ↔ kr_hd A g (nI j) d) := fun d h3 h4 => by
          unfold kr_hd
          rw [kr_fm_16 hw hk ((hgo d h4).mpr (by omega)), e1]
        exact ⟨r, a1, a2, a3, fun d h3 h4 => (same d h3 (by omega)).mpr (a4 d h3 h4), fun h3 w => a5 h3 ((same (r + 1) (by omega) (by omega)).mp w)⟩
    rw [kr_lh_16 hw hk, een, es]
    by_cases h1 : h < e
    · rw [if_pos (nI_lt h1 (by omega))]
      by_cases h2 : s < e
      · rw [if_pos (nI_lt h2 (by omega)), kr_mxN (by omega) (by omega)]
        refine ⟨max h s, by omega, by omega, rfl, fun d h3 h4 => (hno d (by omega) (by omega)).mpr (by omega), fun h3 w => ?_⟩
        have := (hno (max h s + 1) (by omega) (by omega)).mp w
        omega
      · rw [if_neg (nI_nlt (by omega) (by omega))]
        obtain ⟨r, a1, a2, a3, a4, a5⟩ := tail e (Nat.le_refl _) he
        refine ⟨r, by omega, a2, a3, fun d h3 h4 => ?_, a5⟩
        by_cases h5 : d ≤ e
        · exact (hno d (by omega) h5).mpr (by omega)
        · exact a4 d (by omega) h4
    · rw [if_neg (nI_nlt (by omega) (by omega))]
      exact tail h (by omega) hh
theorem kr_stN (hw : kr_wf N L A) (hx : kr_wx N L A) {q p k : Nat} (hq : q < L) (hp : p < kr_rc A q) (hk : k < N) : ∃ s, s ≤ 999 ∧ kr_st A q p (nI k) = nI s ∧ kr_st A q p (nI k) ≤ A 7 (5 * q + p) ∧ (0 < p → kr_st A q p (nI k) ≤ A 7 (5 * q + p - 1)) := by
  have h16 := hw.1
  have hL := hw.2.1
  obtain ⟨⟨e, e1, e2, e3⟩, -⟩ := hx.2.2.1 k hk
  obtain ⟨⟨z, z1, z2, z3⟩, -⟩ := hx.2.2.2 q hq p hp
  have key : ∀ y, y ≤ 999 → nI y * nI e / 100 = nI (y * e / 100) ∧ y * e / 100 ≤ y := fun y hy => by
    have h1 : y * e ≤ 999 * 100 := Nat.mul_le_mul hy e2
    have h2 : y * e ≤ y * 100 := Nat.mul_le_mul (Nat.le_refl _) e2
    refine ⟨?_, by omega⟩
    rw [pk_mul]
    exact pk_div (a := y * e) (d := 100) (by omega) (by omega) (by omega)
  by_cases h0 : p = 0
  · obtain ⟨k1, k2⟩ := key z z2
    have e9 : kr_st A q p (nI k) = nI (z * e / 100) := by rw [kr_st_0 h0 (by omega), e3, z3, k1]
    refine ⟨z * e / 100, by omega, e9, ?_, fun h => by omega⟩
    rw [e9, z3]; exact nI_le k2 (by omega)
  · obtain ⟨⟨z', y1, y2, y3⟩, -⟩ := hx.2.2.2 q hq (p - 1) (by omega)
    have y3 : A 7 (5 * q + p - 1) = nI z' := by rw [← y3]; congr 1; omega
    obtain ⟨k1, k2⟩ := key (min z z') (by omega)
    have e9 : kr_st A q p (nI k) = nI (min z z' * e / 100) := by rw [kr_st_s h0 (by omega), e3, z3, y3, kr_mnN (by omega) (by omega), k1]
    refine ⟨min z z' * e / 100, by omega, e9, ?_, fun _ => ?_⟩
    · rw [e9, z3]; exact nI_le (by omega) (by omega)
    · rw [e9, y3]; exact nI_le (by omega) (by omega)
theorem kr_pl2 (hw : kr_wf N L A) (hx : kr_wx N L A) {q : Nat} (hq : q < L) : ∀ (n pl c : Nat), pl + n = kr_rc A q → c ≤ 999 → ∃ u, u ≤ c ∧ kr_uw A q n pl (nI c) = nI u ∧ (∀ d, 1 ≤ d → d ≤ u → ∀ p, pl ≤ p → p < pl + n → kr_ph A q (nI d) p) ∧ (u < c → ∃ p, pl ≤ p ∧ p < pl + n ∧ ¬ kr_ph A q (nI (u + 1)) p)
  | 0, pl, c, h, hc => ⟨c, Nat.le_refl _, rfl, fun d h1 h2 p h3 h4 => by omega, fun h => by omega⟩
  | n + 1, pl, c, h, hc => by
    have h16 := hw.1
    obtain ⟨k, hk, ek⟩ := hw.tk hq (show pl < kr_rc A q by omega)
    obtain ⟨r, -, a2, a3, a4, a5⟩ := kr_pl1 hw (g := kr_st A q pl) (fun j hj => by
      obtain ⟨s, h1, h2, -⟩ := kr_stN hw hx hq (show pl < kr_rc A q by omega) hj
      exact ⟨s, h1, h2⟩) k hk 0 (by omega)
    have e1 : kr_uw A q (n + 1) pl (nI c) = kr_uw A q n (pl + 1) (nI (min c r)) := by
      show kr_uw A q n (pl + 1) (kr_mn (nI c) (kr_lh A (kr_st A q pl) 16 (A 6 (5 * q + pl)) 0)) = _
      rw [ek, show kr_lh A (kr_st A q pl) 16 (nI k) 0 = nI r from a3, kr_mnN (by omega) (by omega)]
    have hp : ∀ d, kr_hd A (kr_st A q pl) (nI k) d ↔ kr_ph A q (nI d) pl := fun d => by
      unfold kr_hd kr_ph
      rw [ek]
    obtain ⟨u, b1, b2, b3, b4⟩ := kr_pl2 hw hx hq n (pl + 1) (min c r) (by omega) (by omega)
    refine ⟨u, by omega, e1.trans b2, fun d h1 h2 p h3 h4 => ?_, fun hu => ?_⟩
    · by_cases e : p = pl
      · rw [e]; exact (hp d).mp (a4 d (by omega) (by omega))
      · exact b3 d h1 h2 p (by omega) (by omega)
    · by_cases h1 : u < min c r
      · obtain ⟨p, c1, c2, c3⟩ := b4 h1
        exact ⟨p, by omega, by omega, c3⟩
      · have e : u = r := by
          rcases Nat.le_total c r with w | w
          · rw [Nat.min_eq_left w] at h1 b1; omega
          · rw [Nat.min_eq_right w] at h1 b1; omega
        exact ⟨pl, Nat.le_refl _, by omega, fun w => a5 (by omega) (by rw [← e]; exact (hp _).mpr w)⟩
theorem kr_fg_all {q : Nat} : ∀ (n pl : Nat), (∀ p, pl ≤ p → p < pl + n → kr_ph A q ld p) → kr_fg A q ld n pl = -1
  | 0, _, _ => rfl
  | n + 1, pl, h => by
    show (if _ then _ else _) = _
    rw [if_pos (h pl (Nat.le_refl _) (by omega))]
    exact kr_fg_all n (pl + 1) (fun p h1 h2 => h p (by omega) (by omega))
theorem kr_gw_all {q : Nat} (hr : kr_rc A q ≤ 5) : kr_gw A q ld = -1 ↔ ∀ p, p < kr_rc A q → kr_ph A q ld p := by
  constructor
  · intro h
    rcases kr_fg_sp (A := A) (q := q) (ld := ld) (kr_rc A q) 0 (by omega) with ⟨-, h2⟩ | ⟨g, h1, h2, h3, -⟩
    · exact fun p hp => h2 p (Nat.zero_le _) (by omega)
    · rw [show kr_gw A q ld = nI g from h3] at h
      exact absurd h (kr_kn_ne (by omega))
  · intro h
    exact kr_fg_all _ 0 (fun p _ hp => h p (by omega))
/-- up to which load a line holds -/
theorem kr_huN (hw : kr_wf N L A) (hx : kr_wx N L A) {q : Nat} (hq : q < L) : ∃ u, u ≤ 999 ∧ kr_hu A q = nI u ∧ (kr_rc A q = 0 → u = 0) ∧ (∀ d, 1 ≤ d → d ≤ u → kr_gw A q (nI d) = -1) ∧ (0 < kr_rc A q → u < 999 → kr_gw A q (nI (u + 1)) ≠ -1) := by
  obtain ⟨hr5, er⟩ := hw.rc hq
  by_cases h0 : kr_rc A q = 0
  · refine ⟨0, by omega, ?_, fun _ => rfl, fun d h1 h2 => by omega, fun h => by omega⟩
    unfold kr_hu
    rw [h0, if_pos (by rw [er, h0]; rfl)]; rfl
  · obtain ⟨u, b1, b2, b3, b4⟩ := kr_pl2 hw hx hq (kr_rc A q) 0 999 (by omega) (Nat.le_refl _)
    refine ⟨u, b1, ?_, fun h => absurd h h0, fun d h1 h2 => (kr_gw_all hr5).mpr (fun p hp => b3 d h1 h2 p (Nat.zero_le _) (by omega)), fun _ hu w => ?_⟩
    · unfold kr_hu
      rw [if_neg (by rw [er]; exact nI_ne0 (by omega) (by omega))]
      exact b2
    · obtain ⟨p, -, c2, c3⟩ := b4 hu
      exact c3 ((kr_gw_all hr5).mp w p (by omega))
/-- the strongest line -/
theorem kr_sgN : ∀ (n l : Nat) (b : Int32), l + n < 2 ^ 31 → (l = 0 ∧ b = -1 ∨ ∃ j, j < l ∧ b = nI j ∧ ∀ i, i < l → (kr_hu A i).toInt < (kr_hu A j).toInt ∨ (kr_hu A i).toInt = (kr_hu A j).toInt ∧ j ≤ i) → (l + n = 0 ∧ kr_sg A n l b = -1 ∨ ∃ j, j < l + n ∧ kr_sg A n l b = nI j ∧ ∀ i, i < l + n → (kr_hu A i).toInt < (kr_hu A j).toInt ∨ (kr_hu A i).toInt = (kr_hu A j).toInt ∧ j ≤ i)
  | 0, l, b, _, h => by
    rcases h with ⟨h1, h2⟩ | ⟨j, h1, h2, h3⟩
    · exact Or.inl ⟨by omega, h2⟩
    · exact Or.inr ⟨j, by omega, h2, fun i hi => h3 i (by omega)⟩
  | n + 1, l, b, hl, h => by
    have e : kr_sg A (n + 1) l b = kr_sg A n (l + 1) (if b = -1 ∨ kr_hu A (kr_ix b) < kr_hu A l then nI l else b) := rfl
    rw [e]
    have h9 := kr_sgN n (l + 1) (if b = -1 ∨ kr_hu A (kr_ix b) < kr_hu A l then nI l else b) (by omega) (Or.inr ?_)
    · rw [show l + 1 + n = l + (n + 1) by omega] at h9
      exact h9
    · rcases h with ⟨h1, h2⟩ | ⟨j, h1, h2, h3⟩
      · rw [if_pos (Or.inl h2)]
        refine ⟨l, by omega, rfl, fun i hi => ?_⟩
        rw [show i = l by omega]; exact Or.inr ⟨rfl, Nat.le_refl _⟩
      · rw [h2, kr_ix_nI (by omega)]
        by_cases hlt : kr_hu A j < kr_hu A l
        · rw [if_pos (Or.inr hlt)]
          rw [Int32.lt_iff_toInt_lt] at hlt
          refine ⟨l, by omega, rfl, fun i hi => ?_⟩
          by_cases e2 : i = l
          · rw [e2]; exact Or.inr ⟨rfl, Nat.le_refl _⟩
          · have := h3 i (by omega)
            omega
        · rw [if_neg (fun w => w.elim (kr_kn_ne (by omega)) hlt)]
          rw [Int32.lt_iff_toInt_lt] at hlt
          refine ⟨j, by omega, rfl, fun i hi => ?_⟩
          by_cases e2 : i = l
          · rw [e2]; omega
          · exact h3 i (by omega)
theorem kr_sgO (h1 : 0 < L) (h2 : L ≤ 6) : ∃ j, j < L ∧ kr_sg A L 0 (-1) = nI j ∧ ∀ i, i < L → (kr_hu A i).toInt < (kr_hu A j).toInt ∨ (kr_hu A i).toInt = (kr_hu A j).toInt ∧ j ≤ i := by
  rcases kr_sgN (A := A) L 0 (-1) (by omega) (Or.inl ⟨rfl, rfl⟩) with ⟨h, -⟩ | ⟨j, a1, a2, a3⟩
  · omega
  · exact ⟨j, by omega, a2, fun i hi => a3 i (by omega)⟩
/-- the weakest place -/
theorem kr_wkN {q : Nat} : ∀ (n l : Nat) (b : Int32), l + n < 2 ^ 31 → (l = 0 ∧ b = -1 ∨ ∃ j, j < l ∧ b = nI j ∧ (∀ i, i < l → (kr_nw A q j).toInt ≤ (kr_nw A q i).toInt) ∧ ∀ i, i < j → (kr_nw A q j).toInt < (kr_nw A q i).toInt) → (l + n = 0 ∧ kr_wk A q n l b = -1 ∨ ∃ j, j < l + n ∧ kr_wk A q n l b = nI j ∧ (∀ i, i < l + n → (kr_nw A q j).toInt ≤ (kr_nw A q i).toInt) ∧ ∀ i, i < j → (kr_nw A q j).toInt < (kr_nw A q i).toInt)
  | 0, l, b, _, h => by
    rcases h with ⟨h1, h2⟩ | ⟨j, h1, h2, h3⟩
    · exact Or.inl ⟨by omega, h2⟩
    · exact Or.inr ⟨j, by omega, h2, h3⟩
  | n + 1, l, b, hl, h => by
    have e : kr_wk A q (n + 1) l b = kr_wk A q n (l + 1) (if b = -1 ∨ kr_nw A q l < kr_nw A q (kr_ix b) then nI l else b) := rfl
    rw [e]
    have h9 := kr_wkN (q := q) n (l + 1) (if b = -1 ∨ kr_nw A q l < kr_nw A q (kr_ix b) then nI l else b) (by omega) (Or.inr ?_)
    · rw [show l + 1 + n = l + (n + 1) by omega] at h9
      exact h9
    · rcases h with ⟨h1, h2⟩ | ⟨j, h1, h2, h3, h4⟩
      · rw [if_pos (Or.inl h2)]
        refine ⟨l, by omega, rfl, fun i hi => ?_, fun i hi => by omega⟩
        rw [show i = l by omega]; exact Int.le_refl _
      · rw [h2, kr_ix_nI (by omega)]
        by_cases hlt : kr_nw A q l < kr_nw A q j
        · rw [if_pos (Or.inr hlt)]
          rw [Int32.lt_iff_toInt_lt] at hlt
          refine ⟨l, by omega, rfl, fun i hi => ?_, fun i hi => ?_⟩
          · by_cases e2 : i = l
            · rw [e2]; exact Int.le_refl _
            · have := h3 i (by omega)
              omega
          · have := h3 i (by omega)
            omega
        · rw [if_neg (fun w => w.elim (kr_kn_ne (by omega)) hlt)]
          rw [Int32.lt_iff_toInt_lt] at hlt
          refine ⟨j, by omega, rfl, fun i hi => ?_, h4⟩
          by_cases e2 : i = l
          · rw [e2]; omega
          · exact h3 i (by omega)
theorem kr_wkO {q : Nat} (hr : kr_rc A q ≤ 5) : (kr_rc A q = 0 ∧ kr_wk A q (kr_rc A q) 0 (-1) = -1) ∨ ∃ j, j < kr_rc A q ∧ kr_wk A q (kr_rc A q) 0 (-1) = nI j ∧ (∀ i, i < kr_rc A q → (kr_nw A q j).toInt ≤ (kr_nw A q i).toInt) ∧ ∀ i, i < j → (kr_nw A q j).toInt < (kr_nw A q i).toInt := by
  rcases kr_wkN (A := A) (q := q) (kr_rc A q) 0 (-1) (by omega) (Or.inl ⟨rfl, rfl⟩) with ⟨h1, h2⟩ | ⟨j, a1, a2, a3, a4⟩
  · exact Or.inl ⟨by omega, h2⟩
  · exact Or.inr ⟨j, by omega, a2, fun i hi => a3 i (by omega), a4⟩
end KRF
