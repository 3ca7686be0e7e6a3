/-! which exception, if any: 0 none, 1, 2, 3 in the document's order -/
abbrev kr_i (N : Nat) (x : Int32) : Prop := ¬ x < 0 ∧ ¬ nI N ≤ x
abbrev kr_o (x : Int32) : Prop := ¬ x < 1 ∧ ¬ 999 < x
abbrev kr_q (L : Nat) (A : Nat → Nat → Int32) (x y : Int32) : Prop := kr_i L x ∧ (¬ y < 0 ∧ ¬ A 5 (kr_ix x) ≤ y)
def kr_cd (P Q R : Prop) [Decidable P] [Decidable Q] [Decidable R] : Int32 := if P then (if Q then (if R then 0 else 3) else 2) else 1
def kr_E (c : Int32) : String := if c = 1 then "java/lang/IndexOutOfBoundsException" else if c = 2 then "java/lang/IllegalArgumentException" else "java/lang/IllegalStateException"
section KRC
theorem kr_cd0 {P Q R : Prop} [Decidable P] [Decidable Q] [Decidable R] (h1 : P) (h2 : Q) (h3 : R) : kr_cd P Q R = 0 := by unfold kr_cd; rw [if_pos h1, if_pos h2, if_pos h3]
theorem kr_cd1 {P Q R : Prop} [Decidable P] [Decidable Q] [Decidable R] (h : ¬ P) : kr_cd P Q R = 1 := by unfold kr_cd; rw [if_neg h]
theorem kr_cd2 {P Q R : Prop} [Decidable P] [Decidable Q] [Decidable R] (h1 : P) (h : ¬ Q) : kr_cd P Q R = 2 := by unfold kr_cd; rw [if_pos h1, if_neg h]
theorem kr_cd3 {P Q R : Prop} [Decidable P] [Decidable Q] [Decidable R] (h1 : P) (h2 : Q) (h : ¬ R) : kr_cd P Q R = 3 := by unfold kr_cd; rw [if_pos h1, if_pos h2, if_neg h]
theorem kr_cdE {P Q R : Prop} [Decidable P] [Decidable Q] [Decidable R] (h : kr_cd P Q R = 0) : P ∧ Q ∧ R := by
  unfold kr_cd at h
  by_cases h1 : P
  · rw [if_pos h1] at h
    by_cases h2 : Q
    · rw [if_pos h2] at h
      by_cases h3 : R
      · exact ⟨h1, h2, h3⟩
      · rw [if_neg h3] at h; exact absurd h (by decide)
    · rw [if_neg h2] at h; exact absurd h (by decide)
  · rw [if_neg h1] at h; exact absurd h (by decide)
theorem kr_cdX {P Q R : Prop} [Decidable P] [Decidable Q] [Decidable R] (h : ¬ kr_cd P Q R = 0) : kr_cd P Q R = 1 ∧ ¬ P ∨ kr_cd P Q R = 2 ∧ P ∧ ¬ Q ∨ kr_cd P Q R = 3 ∧ P ∧ Q ∧ ¬ R := by
  by_cases h1 : P
  · by_cases h2 : Q
    · by_cases h3 : R
      · exact absurd (kr_cd0 h1 h2 h3) h
      · exact Or.inr (Or.inr ⟨kr_cd3 h1 h2 h3, h1, h2, h3⟩)
    · exact Or.inr (Or.inl ⟨kr_cd2 h1 h2, h1, h2⟩)
  · exact Or.inl ⟨kr_cd1 h1, h1⟩
theorem kr_E1 : kr_E 1 = "java/lang/IndexOutOfBoundsException" := rfl
theorem kr_E2 : kr_E 2 = "java/lang/IllegalArgumentException" := rfl
theorem kr_E3 : kr_E 3 = "java/lang/IllegalStateException" := rfl
end KRC
theorem kr_inS {k : Nat} {z : Int32} (hk : k < 2 ^ 31) (h1 : ¬ z < -1) (h2 : z < nI k) (h3 : ¬ z = -1) : ∃ j, j < k ∧ z = nI j := by
  have h0 : ¬ z < 0 := by
    intro h
    have h4 : ¬ z.toInt = -1 := lv_neT h3 (by decide)
    rw [Int32.lt_iff_toInt_lt] at h1 h
    rw [show (-1 : Int32).toInt = -1 by decide] at h1
    rw [show (0 : Int32).toInt = 0 by decide] at h
    omega
  rcases pk_ix z (n := k) hk with h4 | h4 | h4
  · exact absurd h4 h0
  · exact absurd h2 (kr_ngt2 h4)
  · exact h4
theorem kr_inP {N L : Nat} {A : Nat → Nat → Int32} {x y : Int32} (hw : kr_wf N L A) (h : kr_q L A x y) : ∃ q pl, q < L ∧ pl < kr_rc A q ∧ x = nI q ∧ y = nI pl := by
  obtain ⟨q, hq, rfl⟩ := kr_inL hw.2.1 h.1
  obtain ⟨hrc, er⟩ := hw.rc hq
  have hL := hw.2.1
  have h2 := h.2
  rw [kr_ix_nI (by omega), er] at h2
  rcases pk_ix y (n := kr_rc A q) (by omega) with h4 | h4 | ⟨j, hj, h4⟩
  · exact absurd h4 h2.1
  · exact absurd h4 h2.2
  · exact ⟨q, j, hq, hj, rfl, h4⟩
theorem kr_k01 {x : Int32} : (¬ x < 0 ∧ ¬ 1 < x) ↔ (x = 0 ∨ x = 1) := by
  constructor
  · intro h
    obtain ⟨j, hj, e⟩ := nI_of2 (M := 1) (n := 1) (by decide) h.1 (Int32.not_lt.mp h.2)
    rcases (show j = 0 ∨ j = 1 by omega) with rfl | rfl
    · exact Or.inl e
    · exact Or.inr e
  · rintro (rfl | rfl) <;> exact ⟨by decide, by decide⟩
