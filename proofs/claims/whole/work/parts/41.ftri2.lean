/-! the reference's triple is the class's -/
theorem i64_bm {x : Int} (h1 : -9223372036854775808 ≤ x) (h2 : x < 9223372036854775808) : x.bmod (2 ^ 64) = x := by
  apply Int.bmod_eq_of_le <;> omega
theorem i32_bm {x : Int} (h1 : -2147483648 ≤ x) (h2 : x < 2147483648) : x.bmod (2 ^ 32) = x := by
  apply Int.bmod_eq_of_le <;> omega
theorem i64_sub' {a b : Int64} (h1 : -9223372036854775808 ≤ a.toInt - b.toInt) (h2 : a.toInt - b.toInt < 9223372036854775808) : (a - b).toInt = a.toInt - b.toInt := by
  rw [Int64.toInt_sub, i64_bm h1 h2]
theorem i64_add' {a b : Int64} (h1 : -9223372036854775808 ≤ a.toInt + b.toInt) (h2 : a.toInt + b.toInt < 9223372036854775808) : (a + b).toInt = a.toInt + b.toInt := by
  rw [Int64.toInt_add, i64_bm h1 h2]
theorem i64_mul' {a b : Int64} (h1 : -9223372036854775808 ≤ a.toInt * b.toInt) (h2 : a.toInt * b.toInt < 9223372036854775808) : (a * b).toInt = a.toInt * b.toInt := by
  rw [Int64.toInt_mul, i64_bm h1 h2]
theorem i32_sub' {a b : Int32} (h1 : -2147483648 ≤ a.toInt - b.toInt) (h2 : a.toInt - b.toInt < 2147483648) : (a - b).toInt = a.toInt - b.toInt := by
  rw [Int32.toInt_sub, i32_bm h1 h2]
def ts_b (X : Nat → Int32) : Prop := ∀ a, a < 8 → -9999 ≤ (X a).toInt ∧ (X a).toInt ≤ 9999
theorem ts_df {x y : Int32} (hx : -9999 ≤ x.toInt ∧ x.toInt ≤ 9999) (hy : -9999 ≤ y.toInt ∧ y.toInt ≤ 9999) : (x - y).toInt64 = x.toInt64 - y.toInt64 := by
  rw [← Int64.toInt_inj, Int32.toInt_toInt64, i32_sub' (by omega) (by omega), i64_sub' (by rw [Int32.toInt_toInt64, Int32.toInt_toInt64]; omega) (by rw [Int32.toInt_toInt64, Int32.toInt_toInt64]; omega), Int32.toInt_toInt64, Int32.toInt_toInt64]
theorem ts_dfi {x y : Int32} (hx : -9999 ≤ x.toInt ∧ x.toInt ≤ 9999) (hy : -9999 ≤ y.toInt ∧ y.toInt ≤ 9999) : (x - y).toInt64.toInt = x.toInt - y.toInt := by
  rw [Int32.toInt_toInt64, i32_sub' (by omega) (by omega)]
theorem ts_tw_e {X Y : Nat → Int32} (hX : ts_b X) (hY : ts_b Y) {i j k : Nat} (hi : i < 8) (hj : j < 8) (hk : k < 8) : ts_tw X Y i j k = ((X j).toInt64 - (X i).toInt64) * ((Y k).toInt64 - (Y i).toInt64) - ((Y j).toInt64 - (Y i).toInt64) * ((X k).toInt64 - (X i).toInt64) := by
  rw [ts_tw, ts_df (hX j hj) (hX i hi), ts_df (hY k hk) (hY i hi), ts_df (hY j hj) (hY i hi), ts_df (hX k hk) (hX i hi)]
theorem ts_tw_r (a b c d e f : Int64) (w : Int64) (hw : (b - a) * (f - d) - (e - d) * (c - a) = w) : (a - b) * (f - e) - (d - e) * (c - b) = - w ∧ (c - a) * (e - d) - (f - d) * (b - a) = - w ∧ (c - b) * (d - e) - (f - e) * (a - b) = w ∧ (a - c) * (e - f) - (d - f) * (b - c) = w ∧ (b - c) * (d - f) - (e - f) * (a - c) = - w := by
  refine ⟨?_, ?_, ?_, ?_, ?_⟩ <;> grind
theorem i64_neg0 {w : Int64} : (-w = 0) = (w = 0) := by
  apply propext
  constructor
  · intro h
    grind
  · intro h
    grind
theorem ts_tw_0 {X Y : Nat → Int32} (hX : ts_b X) (hY : ts_b Y) {i j k : Nat} (hi : i < 8) (hj : j < 8) (hk : k < 8) : (ts_tw X Y j i k = 0) = (ts_tw X Y i j k = 0) ∧ (ts_tw X Y i k j = 0) = (ts_tw X Y i j k = 0) ∧ (ts_tw X Y j k i = 0) = (ts_tw X Y i j k = 0) ∧ (ts_tw X Y k i j = 0) = (ts_tw X Y i j k = 0) ∧ (ts_tw X Y k j i = 0) = (ts_tw X Y i j k = 0) := by
  obtain ⟨a1, a2, a3, a4, a5⟩ := ts_tw_r (X i).toInt64 (X j).toInt64 (X k).toInt64 (Y i).toInt64 (Y j).toInt64 (Y k).toInt64 _ rfl
  rw [← ts_tw_e hX hY hi hj hk] at a1 a2 a3 a4 a5
  rw [ts_tw_e hX hY hj hi hk, ts_tw_e hX hY hi hk hj, ts_tw_e hX hY hj hk hi, ts_tw_e hX hY hk hi hj, ts_tw_e hX hY hk hj hi, a1, a2, a3, a4, a5, i64_neg0]
  exact ⟨rfl, rfl, rfl, rfl, rfl⟩
theorem sq_b {x : Int} (h : -20000 ≤ x ∧ x ≤ 20000) : 0 ≤ x * x ∧ x * x ≤ 400000000 := by
  refine ⟨?_, ?_⟩
  · rcases Int.le_total 0 x with h0 | h0
    · exact Int.mul_nonneg h0 h0
    · have := Int.mul_nonneg (show 0 ≤ -x by omega) (show 0 ≤ -x by omega)
      rwa [Int.neg_mul_neg] at this
  · rcases Int.le_total 0 x with h0 | h0
    · exact Int.le_trans (Int.mul_le_mul h.2 h.2 h0 (by omega)) (by omega)
    · have := Int.mul_le_mul (show -x ≤ 20000 by omega) (show -x ≤ 20000 by omega) (show 0 ≤ -x by omega) (by omega)
      rw [Int.neg_mul_neg] at this
      omega
theorem ts_side_i {X Y : Nat → Int32} (hX : ts_b X) (hY : ts_b Y) {i j : Nat} (hi : i < 8) (hj : j < 8) : (ts_side X Y i j).toInt = ((X i).toInt - (X j).toInt) * ((X i).toInt - (X j).toInt) + ((Y i).toInt - (Y j).toInt) * ((Y i).toInt - (Y j).toInt) := by
  have b1 := hX i hi
  have b2 := hX j hj
  have b3 := hY i hi
  have b4 := hY j hj
  have e1 := ts_dfi b1 b2
  have e2 := ts_dfi b3 b4
  have s1 := sq_b (x := (X i).toInt - (X j).toInt) (by omega)
  have s2 := sq_b (x := (Y i).toInt - (Y j).toInt) (by omega)
  rw [← e1] at s1
  rw [← e2] at s2
  rw [ts_side, ← e1, ← e2]
  generalize (X i - X j).toInt64 = u at s1 ⊢
  generalize (Y i - Y j).toInt64 = v at s2 ⊢
  have m1 := i64_mul' (a := u) (b := u) (by omega) (by omega)
  have m2 := i64_mul' (a := v) (b := v) (by omega) (by omega)
  rw [i64_add' (by rw [m1, m2]; omega) (by rw [m1, m2]; omega), m1, m2]
theorem ts_side_0 {X Y : Nat → Int32} (hX : ts_b X) (hY : ts_b Y) {i j : Nat} (hi : i < 8) (hj : j < 8) : 0 ≤ (ts_side X Y i j).toInt := by
  rw [ts_side_i hX hY hi hj]
  have b1 := hX i hi
  have b2 := hX j hj
  have b3 := hY i hi
  have b4 := hY j hj
  have s1 := sq_b (x := (X i).toInt - (X j).toInt) (by omega)
  have s2 := sq_b (x := (Y i).toInt - (Y j).toInt) (by omega)
  omega
def ts_so (A B C : Int64) (i j k : Nat) : ts_T := ts_01 (ts_12 (ts_01 ((A, i), (B, j), (C, k))))
theorem ts_tie {A B C : Int64} {i j k : Nat} (h : A = B ∨ B = C ∨ A = C) : (ts_so A B C i j k).1.1 = (ts_so A B C i j k).2.1.1 ∨ (ts_so A B C i j k).2.1.1 = (ts_so A B C i j k).2.2.1 := by
  unfold ts_so ts_01 ts_12
  simp only [Int64.lt_iff_toInt_lt, ← Int64.toInt_inj] at *
  by_cases h1 : B.toInt < A.toInt
  · simp only [h1, if_true]
    by_cases h2 : C.toInt < A.toInt
    · simp only [h2, if_true]
      by_cases h3 : C.toInt < B.toInt
      · simp only [h3, if_true]; omega
      · simp only [h3, if_false]; omega
    · simp only [h2, if_false]
      simp only [h1, if_false, show ¬ A.toInt < B.toInt by omega]; omega
  · simp only [h1, if_false]
    by_cases h2 : C.toInt < B.toInt
    · simp only [h2, if_true]
      by_cases h3 : C.toInt < A.toInt
      · simp only [h3, if_true]; omega
      · simp only [h3, if_false]; omega
    · simp only [h2, if_false, h1]; omega
theorem ts_so1 {A B C : Int64} {i j k : Nat} (h1 : A < B) (h2 : B < C) (h3 : A < C) : ts_so A B C i j k = ((A, i), (B, j), (C, k)) := by unfold ts_so ts_01 ts_12; simp only [h1, h2, h3, (i64_ne h1).2.2.1, (i64_ne h2).2.2.1, (i64_ne h3).2.2.1, if_true, if_false]
theorem ts_so2 {A B C : Int64} {i j k : Nat} (h1 : A < C) (h2 : C < B) (h3 : A < B) : ts_so A B C i j k = ((A, i), (C, k), (B, j)) := by unfold ts_so ts_01 ts_12; simp only [h1, h2, h3, (i64_ne h1).2.2.1, (i64_ne h2).2.2.1, (i64_ne h3).2.2.1, if_true, if_false]
theorem ts_so3 {A B C : Int64} {i j k : Nat} (h1 : B < A) (h2 : A < C) (h3 : B < C) : ts_so A B C i j k = ((B, j), (A, i), (C, k)) := by unfold ts_so ts_01 ts_12; simp only [h1, h2, h3, (i64_ne h1).2.2.1, (i64_ne h2).2.2.1, (i64_ne h3).2.2.1, if_true, if_false]
theorem ts_so4 {A B C : Int64} {i j k : Nat} (h1 : B < C) (h2 : C < A) (h3 : B < A) : ts_so A B C i j k = ((B, j), (C, k), (A, i)) := by unfold ts_so ts_01 ts_12; simp only [h1, h2, h3, (i64_ne h1).2.2.1, (i64_ne h2).2.2.1, (i64_ne h3).2.2.1, if_true, if_false]
theorem ts_so5 {A B C : Int64} {i j k : Nat} (h1 : C < A) (h2 : A < B) (h3 : C < B) : ts_so A B C i j k = ((C, k), (A, i), (B, j)) := by unfold ts_so ts_01 ts_12; simp only [h1, h2, h3, (i64_ne h1).2.2.1, (i64_ne h2).2.2.1, (i64_ne h3).2.2.1, if_true, if_false]
theorem ts_so6 {A B C : Int64} {i j k : Nat} (h1 : C < B) (h2 : B < A) (h3 : C < A) : ts_so A B C i j k = ((C, k), (B, j), (A, i)) := by unfold ts_so ts_01 ts_12; simp only [h1, h2, h3, (i64_ne h1).2.2.1, (i64_ne h2).2.2.1, (i64_ne h3).2.2.1, if_true, if_false]
