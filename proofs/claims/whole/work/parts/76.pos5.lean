/-! the divisor is above 0 -/
theorem ft_pos (Q : List ft_q) (hl : Q.length ≤ 8) (hb : ∀ q, q ∈ Q → fq_b q) : 0 ≤ (ft_d Q).1.toInt ∧ (ft_d Q).1.toInt ≤ 800000000000 ∧ ∀ q w, q ∈ Q → w ∈ Q → ¬ (q.1 = w.1 ∧ q.2.1 = w.2.1) → 0 < (ft_d Q).1.toInt := by
  have e : (ft_d Q).1 = Q.foldl (fun d q => d + ft_g Q q) 0 := ft_b_1 _ _ Q (0, 0, 0)
  obtain ⟨f1, f2, f3⟩ := fold_p (ft_g Q) Q (fun q hq => ⟨(ft_gi Q hl hb q hq).1, (ft_gi Q hl hb q hq).2.1⟩) 0 0 (by omega) (by simp)
  rw [← e] at f1 f2 f3
  have z0 : (0 : Int64).toInt = 0 := by decide
  rw [z0] at f1 f3
  refine ⟨f1, by omega, fun q w hq hw hn => ?_⟩
  have l0 : 0 < Q.length := List.length_pos_of_mem hq
  obtain ⟨a1, a2, a3⟩ := ft_gi Q hl hb q hq
  obtain ⟨b1, b2, b3⟩ := ft_gi Q hl hb w hw
  have g1 := f3 q hq
  have g2 := f3 w hw
  refine Classical.byContradiction (fun c => hn ?_)
  obtain ⟨c1, c2⟩ := a3 (by omega)
  obtain ⟨c3, c4⟩ := b3 (by omega)
  have k : (Q.length : Int) ≠ 0 := by omega
  exact ⟨Int32.toInt_inj.mp (Int.eq_of_mul_eq_mul_left k (c1.trans c3.symm)), Int32.toInt_inj.mp (Int.eq_of_mul_eq_mul_left k (c2.trans c4.symm))⟩
