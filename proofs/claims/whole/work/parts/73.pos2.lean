/-! the divisor of a fit is above 0 -/
theorem nI_64 {n : Nat} (hn : n < 1000) : (nI n).toInt64.toInt = n := by
  rw [Int32.toInt_toInt64, nI_toInt (by omega)]
/-- n times a number less the sum, as whole numbers -/
theorem fe_i {n : Nat} (hn : n ≤ 8) {x : Int32} (hx : -9999 ≤ x.toInt ∧ x.toInt ≤ 9999) {S : Int64} (hS : -79992 ≤ S.toInt ∧ S.toInt ≤ 79992) : ((nI n).toInt64 * x.toInt64 - S).toInt = n * x.toInt - S.toInt ∧ -159984 ≤ ((nI n).toInt64 * x.toInt64 - S).toInt ∧ ((nI n).toInt64 * x.toInt64 - S).toInt ≤ 159984 := by
  have e1 := nI_64 (n := n) (by omega)
  have e2 : x.toInt64.toInt = x.toInt := Int32.toInt_toInt64 x
  have b : -79992 ≤ (n : Int) * x.toInt ∧ (n : Int) * x.toInt ≤ 79992 := by
    rcases (show n = 0 ∨ n = 1 ∨ n = 2 ∨ n = 3 ∨ n = 4 ∨ n = 5 ∨ n = 6 ∨ n = 7 ∨ n = 8 by omega) with rfl | rfl | rfl | rfl | rfl | rfl | rfl | rfl | rfl <;> omega
  have e3 : ((nI n).toInt64 * x.toInt64).toInt = n * x.toInt := by
    rw [i64_mul' (by rw [e1, e2]; omega) (by rw [e1, e2]; omega), e1, e2]
  generalize (n : Int) * x.toInt = t at b e3 ⊢
  rw [i64_sub' (by rw [e3]; omega) (by rw [e3]; omega), e3]
  omega
theorem sq_c {x : Int} (h : -159984 ≤ x ∧ x ≤ 159984) : 0 ≤ x * x ∧ x * x ≤ 25594880256 ∧ (x ≠ 0 → 0 < x * x) := by
  refine ⟨?_, ?_, fun hx => ?_⟩
  · rcases Int.le_total 0 x with h0 | h0
    · exact Int.mul_nonneg h0 h0
    · have := Int.mul_nonneg (show 0 ≤ -x by omega) (show 0 ≤ -x by omega)
      rwa [Int.neg_mul_neg] at this
  · rcases Int.le_total 0 x with h0 | h0
    · exact Int.le_trans (Int.mul_le_mul h.2 h.2 h0 (by omega)) (by omega)
    · have := Int.mul_le_mul (show -x ≤ 159984 by omega) (show -x ≤ 159984 by omega) (show 0 ≤ -x by omega) (by omega)
      rw [Int.neg_mul_neg] at this
      omega
  · rcases (show 0 < x ∨ x < 0 by omega) with h0 | h0
    · exact Int.mul_pos h0 h0
    · have := Int.mul_pos (show 0 < -x by omega) (show 0 < -x by omega)
      rwa [Int.neg_mul_neg] at this
