/-! a sum of squares is above 0 -/
theorem fold_p (g : ft_q → Int64) (Q : List ft_q) (hQ : ∀ q, q ∈ Q → 0 ≤ (g q).toInt ∧ (g q).toInt ≤ 100000000000) (d : Int64) (c : Nat) (hc : c + Q.length < 100) (hd : 0 ≤ d.toInt ∧ d.toInt ≤ 100000000000 * (c : Int)) : d.toInt ≤ (Q.foldl (fun d q => d + g q) d).toInt ∧ (Q.foldl (fun d q => d + g q) d).toInt ≤ 100000000000 * ((c + Q.length : Nat) : Int) ∧ ∀ q, q ∈ Q → d.toInt + (g q).toInt ≤ (Q.foldl (fun d q => d + g q) d).toInt := by
  induction Q generalizing d c with
  | nil => exact ⟨Int.le_refl _, by simpa using hd.2, fun q hq => by simp at hq⟩
  | cons w Q ih =>
    rw [List.length_cons] at hc
    have b := hQ w List.mem_cons_self
    have e : (d + g w).toInt = d.toInt + (g w).toInt := i64_add' (by omega) (by omega)
    obtain ⟨i1, i2, i3⟩ := ih (fun q hq => hQ q (List.mem_cons_of_mem _ hq)) (d + g w) (c + 1) (by omega) (by rw [e]; omega)
    rw [List.foldl_cons, List.length_cons, show c + (Q.length + 1) = c + 1 + Q.length by omega]
    refine ⟨by omega, i2, fun q hq => ?_⟩
    rcases List.mem_cons.mp hq with rfl | hq
    · omega
    · have := i3 q hq
      omega
theorem ft_b_1 (N : Int64) (S : ft_4) (Q : List ft_q) (z : Int64 × Int64 × Int64) : (Q.foldl (fun z q => ft_b z (ft_e N S q)) z).1 = Q.foldl (fun d q => d + ((ft_e N S q).1 * (ft_e N S q).1 + (ft_e N S q).2.1 * (ft_e N S q).2.1)) z.1 := by
  induction Q generalizing z with
  | nil => rfl
  | cons q Q ih => exact ih (ft_b z (ft_e N S q))
