/-! what stands above the divisor is bounded by it -/
theorem xy_p {x y E : Int} (hx : 0 ≤ x) (hy : -E ≤ y ∧ y ≤ E) : -(E * (x * x)) ≤ x * y ∧ x * y ≤ E * (x * x) := by
  by_cases h0 : x = 0
  · subst h0
    simp
  · have hE : 0 ≤ E := by omega
    have h1 : x * y ≤ x * E := Int.mul_le_mul_of_nonneg_left hy.2 hx
    have h2 : x * (-E) ≤ x * y := Int.mul_le_mul_of_nonneg_left hy.1 hx
    have h3 : x * 1 ≤ x * x := Int.mul_le_mul_of_nonneg_left (by omega) hx
    rw [Int.mul_one] at h3
    have h4 : E * x ≤ E * (x * x) := Int.mul_le_mul_of_nonneg_left h3 hE
    rw [Int.mul_neg] at h2
    rw [Int.mul_comm E x] at h4
    omega
theorem xy_c {x y E : Int} (hy : -E ≤ y ∧ y ≤ E) : -(E * (x * x)) ≤ x * y ∧ x * y ≤ E * (x * x) := by
  rcases Int.le_total 0 x with h0 | h0
  · exact xy_p h0 hy
  · have := xy_p (x := -x) (y := -y) (E := E) (by omega) (by omega)
    rw [Int.neg_mul_neg, Int.neg_mul_neg] at this
    exact this
def ab_in (E : Int) (c : Nat) (z : Int64 × Int64 × Int64) : Prop := (0 ≤ z.1.toInt ∧ z.1.toInt ≤ 100000000000 * (c : Int)) ∧ (-(E * z.1.toInt) ≤ z.2.1.toInt ∧ z.2.1.toInt ≤ E * z.1.toInt) ∧ (-(E * z.1.toInt) ≤ z.2.2.toInt ∧ z.2.2.toInt ≤ E * z.1.toInt)
theorem ab_st {E : Int} (hE : 0 ≤ E ∧ E ≤ 159984) {c : Nat} (hc : c < 99) {z : Int64 × Int64 × Int64} (h : ab_in E c z) {e : ft_4} (h1 : -159984 ≤ e.1.toInt ∧ e.1.toInt ≤ 159984) (h2 : -159984 ≤ e.2.1.toInt ∧ e.2.1.toInt ≤ 159984) (h3 : -E ≤ e.2.2.1.toInt ∧ e.2.2.1.toInt ≤ E) (h4 : -E ≤ e.2.2.2.toInt ∧ e.2.2.2.toInt ≤ E) : ab_in E (c + 1) (ft_b z e) := by
  obtain ⟨e1, e2, e3, e4⟩ := e
  obtain ⟨d, a, b⟩ := z
  unfold ab_in ft_b at *
  dsimp only at *
  obtain ⟨h0, ha, hb⟩ := h
  obtain ⟨s1, s2, -⟩ := sq_c h1
  obtain ⟨t1, t2, -⟩ := sq_c h2
  have p1 := xy_c (x := e1.toInt) h3
  have p2 := xy_c (x := e2.toInt) h4
  have p3 := xy_c (x := e1.toInt) h4
  have p4 := xy_c (x := e2.toInt) h3
  have u1 : E * (e1.toInt * e1.toInt) ≤ 159984 * 25594880256 := Int.mul_le_mul hE.2 s2 s1 (by omega)
  have u2 : E * (e2.toInt * e2.toInt) ≤ 159984 * 25594880256 := Int.mul_le_mul hE.2 t2 t1 (by omega)
  have u3 : E * d.toInt ≤ 159984 * 10000000000000 := Int.mul_le_mul hE.2 (by omega) h0.1 (by omega)
  have m1 := i64_mul' (a := e1) (b := e1) (by omega) (by omega)
  have m2 := i64_mul' (a := e2) (b := e2) (by omega) (by omega)
  have m3 := i64_mul' (a := e1) (b := e3) (by omega) (by omega)
  have m4 := i64_mul' (a := e2) (b := e4) (by omega) (by omega)
  have m5 := i64_mul' (a := e1) (b := e4) (by omega) (by omega)
  have m6 := i64_mul' (a := e2) (b := e3) (by omega) (by omega)
  have n1 := i64_add' (a := e1 * e1) (b := e2 * e2) (by omega) (by omega)
  have n2 := i64_add' (a := e1 * e3) (b := e2 * e4) (by omega) (by omega)
  have n3 := i64_sub' (a := e1 * e4) (b := e2 * e3) (by omega) (by omega)
  rw [i64_add' (a := d) (by omega) (by omega), i64_add' (a := a) (by omega) (by omega), i64_add' (a := b) (by omega) (by omega), n1, n2, n3, m1, m2, m3, m4, m5, m6]
  rw [Int.mul_add, Int.mul_add]
  refine ⟨by omega, by omega, by omega⟩
theorem ab_fo {E : Int} (hE : 0 ≤ E ∧ E ≤ 159984) (N : Int64) (S : ft_4) (Q : List ft_q) (hQ : ∀ q, q ∈ Q → (-159984 ≤ (ft_e N S q).1.toInt ∧ (ft_e N S q).1.toInt ≤ 159984) ∧ (-159984 ≤ (ft_e N S q).2.1.toInt ∧ (ft_e N S q).2.1.toInt ≤ 159984) ∧ (-E ≤ (ft_e N S q).2.2.1.toInt ∧ (ft_e N S q).2.2.1.toInt ≤ E) ∧ (-E ≤ (ft_e N S q).2.2.2.toInt ∧ (ft_e N S q).2.2.2.toInt ≤ E)) (c : Nat) (hc : c + Q.length < 100) (z : Int64 × Int64 × Int64) (h : ab_in E c z) : ab_in E (c + Q.length) (Q.foldl (fun z q => ft_b z (ft_e N S q)) z) := by
  induction Q generalizing z c with
  | nil => exact h
  | cons q Q ih =>
    rw [List.length_cons] at hc
    obtain ⟨q1, q2, q3, q4⟩ := hQ q List.mem_cons_self
    have := ih (fun w hw => hQ w (List.mem_cons_of_mem _ hw)) (c + 1) (by omega) _ (ab_st hE (by omega) h q1 q2 q3 q4)
    rw [List.foldl_cons, List.length_cons, show c + (Q.length + 1) = c + 1 + Q.length by omega]
    exact this
theorem ft_ab (Q : List ft_q) (hl : Q.length ≤ 8) (hb : ∀ q, q ∈ Q → fq_b q) {E : Int} (hE : 0 ≤ E ∧ E ≤ 159984) (h3 : ∀ q, q ∈ Q → (-E ≤ (ft_e (nI Q.length).toInt64 (ft_s Q) q).2.2.1.toInt ∧ (ft_e (nI Q.length).toInt64 (ft_s Q) q).2.2.1.toInt ≤ E) ∧ (-E ≤ (ft_e (nI Q.length).toInt64 (ft_s Q) q).2.2.2.toInt ∧ (ft_e (nI Q.length).toInt64 (ft_s Q) q).2.2.2.toInt ≤ E)) : ab_in E Q.length (ft_d Q) := by
  obtain ⟨b1, b2, b3, b4⟩ := ft_sb Q hl hb
  have := ab_fo hE (nI Q.length).toInt64 (ft_s Q) Q (fun q hq => ⟨(fe_i hl (hb q hq).1 b1).2, (fe_i hl (hb q hq).2.1 b2).2, h3 q hq⟩) 0 (by omega) (0, 0, 0) (by
    unfold ab_in
    dsimp only
    have z0 : (0 : Int64).toInt = 0 := by decide
    rw [z0]
    simp)
  rw [Nat.zero_add] at this
  exact this
theorem ft_ab0 (Q : List ft_q) (hl : Q.length ≤ 8) (hb : ∀ q, q ∈ Q → fq_b q) : ab_in 159984 Q.length (ft_d Q) := by
  obtain ⟨b1, b2, b3, b4⟩ := ft_sb Q hl hb
  exact ft_ab Q hl hb (by omega) (fun q hq => ⟨(fe_i hl (hb q hq).2.2.1 b3).2, (fe_i hl (hb q hq).2.2.2 b4).2⟩)
