/-! the divisor of a fit is above 0 where two places differ -/
def ft_g (Q : List ft_q) (q : ft_q) : Int64 := (ft_e (nI Q.length).toInt64 (ft_s Q) q).1 * (ft_e (nI Q.length).toInt64 (ft_s Q) q).1 + (ft_e (nI Q.length).toInt64 (ft_s Q) q).2.1 * (ft_e (nI Q.length).toInt64 (ft_s Q) q).2.1
theorem ft_gi (Q : List ft_q) (hl : Q.length ≤ 8) (hb : ∀ q, q ∈ Q → fq_b q) (q : ft_q) (hq : q ∈ Q) : 0 ≤ (ft_g Q q).toInt ∧ (ft_g Q q).toInt ≤ 100000000000 ∧ ((ft_g Q q).toInt = 0 → (Q.length : Int) * q.1.toInt = (ft_s Q).1.toInt ∧ (Q.length : Int) * q.2.1.toInt = (ft_s Q).2.1.toInt) := by
  obtain ⟨b1, b2, -, -⟩ := ft_sb Q hl hb
  obtain ⟨x1, x2, x3⟩ := fe_i hl (hb q hq).1 b1
  obtain ⟨y1, y2, y3⟩ := fe_i hl (hb q hq).2.1 b2
  unfold ft_g ft_e
  dsimp only
  generalize (nI Q.length).toInt64 * q.1.toInt64 - (ft_s Q).1 = u at x1 x2 x3 ⊢
  generalize (nI Q.length).toInt64 * q.2.1.toInt64 - (ft_s Q).2.1 = v at y1 y2 y3 ⊢
  obtain ⟨s1, s2, s3⟩ := sq_c ⟨x2, x3⟩
  obtain ⟨t1, t2, t3⟩ := sq_c ⟨y2, y3⟩
  have m1 := i64_mul' (a := u) (b := u) (by omega) (by omega)
  have m2 := i64_mul' (a := v) (b := v) (by omega) (by omega)
  rw [i64_add' (by rw [m1, m2]; omega) (by rw [m1, m2]; omega), m1, m2]
  refine ⟨by omega, by omega, fun z => ?_⟩
  have u0 : u.toInt = 0 := Classical.byContradiction (fun c => by have := s3 c; omega)
  have v0 : v.toInt = 0 := Classical.byContradiction (fun c => by have := t3 c; omega)
  omega
