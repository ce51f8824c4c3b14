/-! the divisor of a fit -/
theorem ft_sb (Q : List ft_q) (hl : Q.length ≤ 8) (hb : ∀ q, q ∈ Q → fq_b q) : (-79992 ≤ (ft_s Q).1.toInt ∧ (ft_s Q).1.toInt ≤ 79992) ∧ (-79992 ≤ (ft_s Q).2.1.toInt ∧ (ft_s Q).2.1.toInt ≤ 79992) ∧ (-79992 ≤ (ft_s Q).2.2.1.toInt ∧ (ft_s Q).2.2.1.toInt ≤ 79992) ∧ (-79992 ≤ (ft_s Q).2.2.2.toInt ∧ (ft_s Q).2.2.2.toInt ≤ 79992) := by
  obtain ⟨a1, a2, a3, a4⟩ := ft_a_1 Q (0, 0, 0, 0)
  have c1 := (fold_c (fun q => q.1) Q (fun q hq => (hb q hq).1) 0 0 (by omega) (by simp)).2
  have c2 := (fold_c (fun q => q.2.1) Q (fun q hq => (hb q hq).2.1) 0 0 (by omega) (by simp)).2
  have c3 := (fold_c (fun q => q.2.2.1) Q (fun q hq => (hb q hq).2.2.1) 0 0 (by omega) (by simp)).2
  have c4 := (fold_c (fun q => q.2.2.2) Q (fun q hq => (hb q hq).2.2.2) 0 0 (by omega) (by simp)).2
  unfold ft_s
  rw [a1, a2, a3, a4]
  dsimp only
  refine ⟨?_, ?_, ?_, ?_⟩ <;> omega
