/-! distances between the plates are 0 or more -/
def fq_p (q : ft_q) : Prop := (0 ≤ q.1.toInt ∧ q.1.toInt ≤ 4095) ∧ (0 ≤ q.2.1.toInt ∧ q.2.1.toInt ≤ 4095) ∧ (0 ≤ q.2.2.1.toInt ∧ q.2.2.1.toInt ≤ 4095) ∧ (0 ≤ q.2.2.2.toInt ∧ q.2.2.2.toInt ≤ 4095)
theorem fq_pb {q : ft_q} (h : fq_p q) : fq_b q := by
  obtain ⟨h1, h2, h3, h4⟩ := h
  exact ⟨by omega, by omega, by omega, by omega⟩
theorem fold_k (p : ft_q → Int32) (Q : List ft_q) (hQ : ∀ q, q ∈ Q → 0 ≤ (p q).toInt ∧ (p q).toInt ≤ 4095) (S : Int64) (c : Nat) (hc : c + Q.length < 100) (hS : 0 ≤ S.toInt ∧ S.toInt ≤ 4095 * (c : Int)) : 0 ≤ (Q.foldl (fun s q => s + (p q).toInt64) S).toInt ∧ (Q.foldl (fun s q => s + (p q).toInt64) S).toInt ≤ 4095 * ((c + Q.length : Nat) : Int) := by
  induction Q generalizing S c with
  | nil => exact ⟨hS.1, by simpa using hS.2⟩
  | cons q Q ih =>
    rw [List.length_cons] at hc
    have b := hQ q List.mem_cons_self
    have e := i64_adds (c := c) (by omega) (a := S) (x := p q) (by omega) (by omega)
    have := ih (fun w hw => hQ w (List.mem_cons_of_mem _ hw)) (S + (p q).toInt64) (c + 1) (by omega) (by rw [e]; omega)
    rw [List.foldl_cons, List.length_cons, show c + (Q.length + 1) = c + 1 + Q.length by omega]
    exact this
theorem ft_sp (Q : List ft_q) (hl : Q.length ≤ 8) (hb : ∀ q, q ∈ Q → fq_p q) : (0 ≤ (ft_s Q).1.toInt ∧ (ft_s Q).1.toInt ≤ 4095 * (Q.length : Int)) ∧ (0 ≤ (ft_s Q).2.1.toInt ∧ (ft_s Q).2.1.toInt ≤ 4095 * (Q.length : Int)) ∧ (0 ≤ (ft_s Q).2.2.1.toInt ∧ (ft_s Q).2.2.1.toInt ≤ 4095 * (Q.length : Int)) ∧ (0 ≤ (ft_s Q).2.2.2.toInt ∧ (ft_s Q).2.2.2.toInt ≤ 4095 * (Q.length : Int)) := by
  obtain ⟨a1, a2, a3, a4⟩ := ft_a_1 Q (0, 0, 0, 0)
  have c1 := fold_k (fun q => q.1) Q (fun q hq => (hb q hq).1) 0 0 (by omega) (by simp)
  have c2 := fold_k (fun q => q.2.1) Q (fun q hq => (hb q hq).2.1) 0 0 (by omega) (by simp)
  have c3 := fold_k (fun q => q.2.2.1) Q (fun q hq => (hb q hq).2.2.1) 0 0 (by omega) (by simp)
  have c4 := fold_k (fun q => q.2.2.2) Q (fun q hq => (hb q hq).2.2.2) 0 0 (by omega) (by simp)
  unfold ft_s
  rw [a1, a2, a3, a4]
  dsimp only
  rw [Nat.zero_add] at c1 c2 c3 c4
  exact ⟨c1, c2, c3, c4⟩
theorem fe_p {n : Nat} (hn : n ≤ 8) {x : Int32} (hx : 0 ≤ x.toInt ∧ x.toInt ≤ 4095) {S : Int64} (hS : 0 ≤ S.toInt ∧ S.toInt ≤ 4095 * (n : Int)) : -32760 ≤ ((nI n).toInt64 * x.toInt64 - S).toInt ∧ ((nI n).toInt64 * x.toInt64 - S).toInt ≤ 32760 := by
  have h := (fe_i hn (x := x) (by omega) (S := S) (by omega)).1
  rw [h]
  rcases (show n = 0 ∨ n = 1 ∨ n = 2 ∨ n = 3 ∨ n = 4 ∨ n = 5 ∨ n = 6 ∨ n = 7 ∨ n = 8 by omega) with rfl | rfl | rfl | rfl | rfl | rfl | rfl | rfl | rfl <;> omega
/-- the sums themselves -/
def ab_i2 (c : Nat) (z : Int64 × Int64 × Int64) : Prop := (-(100000000000 * (c : Int)) ≤ z.2.1.toInt ∧ z.2.1.toInt ≤ 100000000000 * (c : Int)) ∧ (-(100000000000 * (c : Int)) ≤ z.2.2.toInt ∧ z.2.2.toInt ≤ 100000000000 * (c : Int))
theorem xy_b {x y : Int} (hx : -159984 ≤ x ∧ x ≤ 159984) (hy : -159984 ≤ y ∧ y ≤ 159984) : -25594880256 ≤ x * y ∧ x * y ≤ 25594880256 := by
  rcases Int.le_total 0 x with h0 | h0
  · have h1 : x * y ≤ x * 159984 := Int.mul_le_mul_of_nonneg_left hy.2 h0
    have h2 : x * (-159984) ≤ x * y := Int.mul_le_mul_of_nonneg_left hy.1 h0
    omega
  · have h1 : -x * y ≤ -x * 159984 := Int.mul_le_mul_of_nonneg_left hy.2 (by omega)
    have h2 : -x * (-159984) ≤ -x * y := Int.mul_le_mul_of_nonneg_left hy.1 (by omega)
    have e : -x * y = -(x * y) := Int.neg_mul x y
    rw [e] at h1 h2
    omega
theorem ab_s2 {c : Nat} (hc : c < 99) {z : Int64 × Int64 × Int64} (h : ab_i2 c z) {e : ft_4} (h1 : -159984 ≤ e.1.toInt ∧ e.1.toInt ≤ 159984) (h2 : -159984 ≤ e.2.1.toInt ∧ e.2.1.toInt ≤ 159984) (h3 : -159984 ≤ e.2.2.1.toInt ∧ e.2.2.1.toInt ≤ 159984) (h4 : -159984 ≤ e.2.2.2.toInt ∧ e.2.2.2.toInt ≤ 159984) : ab_i2 (c + 1) (ft_b z e) := by
  obtain ⟨e1, e2, e3, e4⟩ := e
  obtain ⟨d, a, b⟩ := z
  unfold ab_i2 ft_b at *
  dsimp only at *
  obtain ⟨ha, hb⟩ := h
  have p1 := xy_b h1 h3
  have p2 := xy_b h2 h4
  have p3 := xy_b h1 h4
  have p4 := xy_b h2 h3
  have m3 := i64_mul' (a := e1) (b := e3) (by omega) (by omega)
  have m4 := i64_mul' (a := e2) (b := e4) (by omega) (by omega)
  have m5 := i64_mul' (a := e1) (b := e4) (by omega) (by omega)
  have m6 := i64_mul' (a := e2) (b := e3) (by omega) (by omega)
  have n2 := i64_add' (a := e1 * e3) (b := e2 * e4) (by omega) (by omega)
  have n3 := i64_sub' (a := e1 * e4) (b := e2 * e3) (by omega) (by omega)
  rw [i64_add' (a := a) (by omega) (by omega), i64_add' (a := b) (by omega) (by omega), n2, n3, m3, m4, m5, m6]
  refine ⟨by omega, by omega⟩
theorem ab_f2 (N : Int64) (S : ft_4) (Q : List ft_q) (hQ : ∀ q, q ∈ Q → (-159984 ≤ (ft_e N S q).1.toInt ∧ (ft_e N S q).1.toInt ≤ 159984) ∧ (-159984 ≤ (ft_e N S q).2.1.toInt ∧ (ft_e N S q).2.1.toInt ≤ 159984) ∧ (-159984 ≤ (ft_e N S q).2.2.1.toInt ∧ (ft_e N S q).2.2.1.toInt ≤ 159984) ∧ (-159984 ≤ (ft_e N S q).2.2.2.toInt ∧ (ft_e N S q).2.2.2.toInt ≤ 159984)) (c : Nat) (hc : c + Q.length < 100) (z : Int64 × Int64 × Int64) (h : ab_i2 c z) : ab_i2 (c + Q.length) (Q.foldl (fun z q => ft_b z (ft_e N S q)) z) := by
  induction Q generalizing z c with
  | nil => exact h
  | cons q Q ih =>
    rw [List.length_cons] at hc
    obtain ⟨q1, q2, q3, q4⟩ := hQ q List.mem_cons_self
    have := ih (fun w hw => hQ w (List.mem_cons_of_mem _ hw)) (c + 1) (by omega) _ (ab_s2 (by omega) h q1 q2 q3 q4)
    rw [List.foldl_cons, List.length_cons, show c + (Q.length + 1) = c + 1 + Q.length by omega]
    exact this
theorem ft_a2 (Q : List ft_q) (hl : Q.length ≤ 8) (hb : ∀ q, q ∈ Q → fq_b q) : ab_i2 Q.length (ft_d Q) := by
  obtain ⟨b1, b2, b3, b4⟩ := ft_sb Q hl hb
  have := ab_f2 (nI Q.length).toInt64 (ft_s Q) Q (fun q hq => ⟨(fe_i hl (hb q hq).1 b1).2, (fe_i hl (hb q hq).2.1 b2).2, (fe_i hl (hb q hq).2.2.1 b3).2, (fe_i hl (hb q hq).2.2.2 b4).2⟩) 0 (by omega) (0, 0, 0) (by
    unfold ab_i2
    dsimp only
    have z0 : (0 : Int64).toInt = 0 := by decide
    rw [z0]
    simp)
  rw [Nat.zero_add] at this
  exact this
theorem ft_abp (Q : List ft_q) (hl : Q.length ≤ 8) (hb : ∀ q, q ∈ Q → fq_p q) : ab_in 32760 Q.length (ft_d Q) := by
  obtain ⟨b1, b2, b3, b4⟩ := ft_sp Q hl hb
  exact ft_ab Q hl (fun q hq => fq_pb (hb q hq)) (by omega) (fun q hq => ⟨fe_p hl (hb q hq).2.2.1 b3, fe_p hl (hb q hq).2.2.2 b4⟩)
/-- a quotient is bounded as what stands above it -/
theorem fl_b {u b : Int64} (hb : 0 < b.toInt) {K : Int} (hK : 0 ≤ K ∧ K < 4000000000000000000) (h1 : -(K * b.toInt) ≤ u.toInt) (h2 : u.toInt ≤ K * b.toInt) : -K ≤ (ft_fl u b).toInt ∧ (ft_fl u b).toInt ≤ K := by
  have e1 := i64_div' (a := u) hb
  obtain ⟨e2, -⟩ := i64_rem' (a := u) hb
  have e3 := Int.mul_tdiv_add_tmod u.toInt b.toInt
  have e4 : (u.toInt.tmod b.toInt).natAbs < b.toInt.natAbs := by
    rw [Int.natAbs_tmod]
    exact Nat.mod_lt _ (by omega)
  rw [← e1, ← e2] at e3
  rw [← e2] at e4
  have q1 : (u / b).toInt ≤ K := by
    refine Classical.byContradiction (fun c => ?_)
    have := Int.mul_le_mul_of_nonneg_left (show K + 1 ≤ (u / b).toInt by omega) (show 0 ≤ b.toInt by omega)
    rw [Int.mul_add, Int.mul_comm b.toInt K] at this
    omega
  have q2 : -K ≤ (u / b).toInt := by
    refine Classical.byContradiction (fun c => ?_)
    have := Int.mul_le_mul_of_nonneg_left (show (u / b).toInt ≤ -(K + 1) by omega) (show 0 ≤ b.toInt by omega)
    rw [Int.mul_neg, Int.mul_add, Int.mul_comm b.toInt K] at this
    omega
  have q3 : (u - u / b * b).toInt < 0 → -K + 1 ≤ (u / b).toInt := by
    intro hn
    refine Classical.byContradiction (fun c => ?_)
    have := Int.mul_le_mul_of_nonneg_left (show (u / b).toInt ≤ -K by omega) (show 0 ≤ b.toInt by omega)
    rw [Int.mul_neg, Int.mul_comm b.toInt K] at this
    omega
  unfold ft_fl
  by_cases c : u - u / b * b < 0
  · rw [if_pos c]
    rw [Int64.lt_iff_toInt_lt, Int64.toInt_zero] at c
    have q3 := q3 c
    have one : (1 : Int64).toInt = 1 := by decide
    rw [i64_sub' (by rw [one]; omega) (by rw [one]; omega), one]
    omega
  · rw [if_neg c]
    exact ⟨q2, q1⟩
