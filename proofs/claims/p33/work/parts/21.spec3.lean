section KRM
variable {A : Nat → Nat → Int32}
theorem kr_10 : ¬ (1 : Int32) = 0 := by decide
theorem kr_20 : ¬ (2 : Int32) = 0 := by decide
theorem kr_30 : ¬ (3 : Int32) = 0 := by decide
theorem kr_tA1 (L k : Nat) (z : Int32) : kr_up (kr_up (kr_up A 5 (upd (A 5) L 1)) 7 (upd (A 7) (5 * L) z)) 6 (upd (A 6) (5 * L) (nI k)) = kr_tA A L k z := by
  unfold kr_tA kr_jA
  rw [kr_up_sw (kr_up A 5 _) _ _ (show 7 ≠ 6 by decide), kr_up_sw A _ _ (show 5 ≠ 6 by decide), kr_up_sw (kr_up A 6 _) _ _ (show 5 ≠ 7 by decide)]
  rfl
theorem kr_jA1 (q r k : Nat) (z : Int32) : kr_up (kr_up (kr_up A 7 (upd (A 7) (5 * q + r) z)) 6 (upd (A 6) (5 * q + r) (nI k))) 5 (upd (A 5) q (nI (r + 1))) = kr_jA A q r k z := by
  unfold kr_jA
  rw [kr_up_sw A _ _ (show 7 ≠ 6 by decide)]
theorem kr_rA_tw (i k k2 : Nat) : kr_up (kr_rA A i k) 6 (upd (kr_rA A i k 6) i (nI k2)) = kr_rA A i k2 := by
  unfold kr_rA
  rw [kr_upS, kr_upd_tw, kr_up_tw]
theorem kr_rA_id {i k : Nat} (h : A 6 i = nI k) : kr_rA A i k = A := by
  unfold kr_rA
  rw [← h, kr_upd_id, kr_up_id]
theorem kr_rA_bk {i k k2 : Nat} (h : A 6 i = nI k2) : kr_up (kr_rA A i k) 6 (upd (kr_rA A i k 6) i (nI k2)) = A := by
  rw [kr_rA_tw]; exact kr_rA_id h
end KRM
section KRN
variable {A : Nat → Nat → Int32} {N q i0 i : Nat} {kd b g : Int32}
end KRN
