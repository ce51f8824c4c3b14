/-! sums as whole numbers -/
/-- all numbers of a list are from -9999 to 9999 -/
def fq_b (q : ft_q) : Prop := (-9999 ≤ q.1.toInt ∧ q.1.toInt ≤ 9999) ∧ (-9999 ≤ q.2.1.toInt ∧ q.2.1.toInt ≤ 9999) ∧ (-9999 ≤ q.2.2.1.toInt ∧ q.2.2.1.toInt ≤ 9999) ∧ (-9999 ≤ q.2.2.2.toInt ∧ q.2.2.2.toInt ≤ 9999)
theorem i64_adds {a : Int64} {x : Int32} {c : Nat} (hc : c < 100) (ha : -9999 * (c : Int) ≤ a.toInt ∧ a.toInt ≤ 9999 * (c : Int)) (hx : -9999 ≤ x.toInt ∧ x.toInt ≤ 9999) : (a + x.toInt64).toInt = a.toInt + x.toInt := by
  rw [i64_add' (by rw [Int32.toInt_toInt64]; omega) (by rw [Int32.toInt_toInt64]; omega), Int32.toInt_toInt64]
/-- the sums of whole numbers -/
def is_1 (p : ft_q → Int) (Q : List ft_q) : Int := Q.foldl (fun s q => s + p q) 0
theorem is_a (p : ft_q → Int) (Q : List ft_q) (q : ft_q) : is_1 p (Q ++ [q]) = is_1 p Q + p q := by
  unfold is_1
  rw [List.foldl_append]
  rfl
theorem fold_c (p : ft_q → Int32) (Q : List ft_q) (hQ : ∀ q, q ∈ Q → -9999 ≤ (p q).toInt ∧ (p q).toInt ≤ 9999) (S : Int64) (c : Nat) (hc : c + Q.length < 100) (hS : -9999 * (c : Int) ≤ S.toInt ∧ S.toInt ≤ 9999 * (c : Int)) : (Q.foldl (fun s q => s + (p q).toInt64) S).toInt = Q.foldl (fun s q => s + (p q).toInt) S.toInt ∧ -9999 * ((c + Q.length : Nat) : Int) ≤ (Q.foldl (fun s q => s + (p q).toInt64) S).toInt ∧ (Q.foldl (fun s q => s + (p q).toInt64) S).toInt ≤ 9999 * ((c + Q.length : Nat) : Int) := by
  induction Q generalizing S c with
  | nil => exact ⟨rfl, by simpa using hS.1, by simpa using hS.2⟩
  | cons q Q ih =>
    rw [List.length_cons] at hc
    have b := hQ q List.mem_cons_self
    have e := i64_adds (c := c) (by omega) hS b
    have := ih (fun w hw => hQ w (List.mem_cons_of_mem _ hw)) (S + (p q).toInt64) (c + 1) (by omega) (by rw [e]; omega)
    rw [List.foldl_cons, List.foldl_cons, ← e, List.length_cons, show c + (Q.length + 1) = c + 1 + Q.length by omega]
    exact this
theorem ft_a_1 (Q : List ft_q) (S : ft_4) : (Q.foldl ft_a S).1 = Q.foldl (fun s q => s + q.1.toInt64) S.1 ∧ (Q.foldl ft_a S).2.1 = Q.foldl (fun s q => s + q.2.1.toInt64) S.2.1 ∧ (Q.foldl ft_a S).2.2.1 = Q.foldl (fun s q => s + q.2.2.1.toInt64) S.2.2.1 ∧ (Q.foldl ft_a S).2.2.2 = Q.foldl (fun s q => s + q.2.2.2.toInt64) S.2.2.2 := by
  induction Q generalizing S with
  | nil => exact ⟨rfl, rfl, rfl, rfl⟩
  | cons q Q ih => exact ih (ft_a S q)
