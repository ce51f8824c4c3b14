/-! sums as whole numbers -/
/-- all numbers of a list are from -9999 to 9999 -/
def fq_b (q : ft_q) : Prop := (-9999 ≤ q.1.toInt ∧ q.1.toInt ≤ 9999) ∧ (-9999 ≤ q.2.1.toInt ∧ q.2.1.toInt ≤ 9999) ∧ (-9999 ≤ q.2.2.1.toInt ∧ q.2.2.1.toInt ≤ 9999) ∧ (-9999 ≤ q.2.2.2.toInt ∧ q.2.2.2.toInt ≤ 9999)
theorem i64_adds {a : Int64} {x : Int32} {c : Nat} (hc : c < 100) (ha : -9999 * (c : Int) ≤ a.toInt ∧ a.toInt ≤ 9999 * (c : Int)) (hx : -9999 ≤ x.toInt ∧ x.toInt ≤ 9999) : (a + x.toInt64).toInt = a.toInt + x.toInt := by
  rw [i64_add' (by rw [Int32.toInt_toInt64]; omega) (by rw [Int32.toInt_toInt64]; omega), Int32.toInt_toInt64]
/-- the sums of whole numbers -/
def is_1 (p : ft_q → Int) (Q : List ft_q) : Int := Q.foldl (fun s q => s + p q) 0
theorem is_a (p : ft_q → Int) (Q : List ft_q) (q : ft_q) : is_1 p (Q ++ [q]) = is_1 p Q + p q := by
  unfold is_1
  rw [List.foldl_append]
  rfl
