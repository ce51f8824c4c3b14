/-! a place carried over is near enough for its square to be a number -/
theorem cm_b {a E d e F : Int} (hd : 0 ≤ d) (hE : 0 ≤ E) (ha : -(E * d) ≤ a ∧ a ≤ E * d) (he : -F ≤ e ∧ e ≤ F) : -(E * F * d) ≤ a * e ∧ a * e ≤ E * F * d := by
  have hF : 0 ≤ F := by omega
  have hEd : 0 ≤ E * d := Int.mul_nonneg hE hd
  have r : E * F * d = E * d * F := by rw [Int.mul_assoc, Int.mul_comm F d, ← Int.mul_assoc]
  rw [r]
  rcases Int.le_total 0 e with h0 | h0
  · have h1 : a * e ≤ E * d * e := Int.mul_le_mul_of_nonneg_right ha.2 h0
    have h2 : -(E * d) * e ≤ a * e := Int.mul_le_mul_of_nonneg_right ha.1 h0
    have h3 : E * d * e ≤ E * d * F := Int.mul_le_mul_of_nonneg_left he.2 hEd
    have e2 : -(E * d) * e = -(E * d * e) := Int.neg_mul _ _
    rw [e2] at h2
    omega
  · have h1 : a * -e ≤ E * d * -e := Int.mul_le_mul_of_nonneg_right ha.2 (by omega)
    have h2 : -(E * d) * -e ≤ a * -e := Int.mul_le_mul_of_nonneg_right ha.1 (by omega)
    have h3 : E * d * -e ≤ E * d * F := Int.mul_le_mul_of_nonneg_left (by omega) hEd
    have e1 : a * -e = -(a * e) := Int.mul_neg _ _
    have e2 : -(E * d) * -e = -(E * d * -e) := Int.neg_mul _ _
    rw [e1] at h1 h2
    rw [e2] at h2
    omega
theorem ab_big {a e : Int} (ha : -800000000000 ≤ a ∧ a ≤ 800000000000) (he : -32760 ≤ e ∧ e ≤ 32760) : -26208000000000000 ≤ a * e ∧ a * e ≤ 26208000000000000 := by
  have := cm_b (a := a) (E := 800000000000) (d := 1) (e := e) (F := 32760) (by omega) (by omega) (by omega) he
  omega
theorem up_b {d A B S eX eY : Int64} (hd : 0 ≤ d.toInt ∧ d.toInt ≤ 800000000000) (hS : 0 ≤ S.toInt ∧ S.toInt ≤ 32760) (hX : -32760 ≤ eX.toInt ∧ eX.toInt ≤ 32760) (hY : -32760 ≤ eY.toInt ∧ eY.toInt ≤ 32760) (hA : -(32760 * d.toInt) ≤ A.toInt ∧ A.toInt ≤ 32760 * d.toInt) (hB : -(32760 * d.toInt) ≤ B.toInt ∧ B.toInt ≤ 32760 * d.toInt) (gA : -800000000000 ≤ A.toInt ∧ A.toInt ≤ 800000000000) (gB : -800000000000 ≤ B.toInt ∧ B.toInt ≤ 800000000000) : (-(2146467960 * d.toInt) ≤ (S * d + A * eX - B * eY).toInt ∧ (S * d + A * eX - B * eY).toInt ≤ 2146467960 * d.toInt) ∧ (-(2146467960 * d.toInt) ≤ (S * d + A * eX + B * eY).toInt ∧ (S * d + A * eX + B * eY).toInt ≤ 2146467960 * d.toInt) := by
  have p1 : S.toInt * d.toInt ≤ 32760 * d.toInt := Int.mul_le_mul_of_nonneg_right hS.2 hd.1
  have p0 : 0 ≤ S.toInt * d.toInt := Int.mul_nonneg hS.1 hd.1
  have p2 := cm_b hd.1 (by omega) hA hX
  have p3 := cm_b hd.1 (by omega) hB hY
  have q2 := ab_big gA hX
  have q3 := ab_big gB hY
  have m1 := i64_mul' (a := S) (b := d) (by omega) (by omega)
  have m2 := i64_mul' (a := A) (b := eX) (by omega) (by omega)
  have m3 := i64_mul' (a := B) (b := eY) (by omega) (by omega)
  have a1 := i64_add' (a := S * d) (b := A * eX) (by omega) (by omega)
  have a2 := i64_sub' (a := S * d + A * eX) (b := B * eY) (by omega) (by omega)
  have a3 := i64_add' (a := S * d + A * eX) (b := B * eY) (by omega) (by omega)
  rw [a2, a3, a1, m1, m2, m3]
  omega
theorem pl_b (Q : List ft_q) (hl : Q.length ≤ 8) (h0 : 0 < Q.length) (hb : ∀ q, q ∈ Q → fq_p q) (ho : fo Q) (hd : 0 < (ft_d Q).1.toInt) (hd2 : (ft_d Q).1.toInt ≤ 800000000000) (x y : Int32) (hx : 0 ≤ x.toInt ∧ x.toInt ≤ 4095) (hy : 0 ≤ y.toInt ∧ y.toInt ≤ 4095) (ax : Int32) : -2146467960 ≤ (ft_pl Q x y ax).toInt ∧ (ft_pl Q x y ax).toInt ≤ 2146467960 := by
  obtain ⟨b1, b2, b3, b4⟩ := ft_sp Q hl hb
  have gX := fe_p hl hx b1
  have gY := fe_p hl hy b2
  obtain ⟨-, i2, i3⟩ := ft_abp Q hl hb
  obtain ⟨j2, j3⟩ := ft_a2 Q hl (fun q hq => fq_pb (hb q hq))
  have n1 := nI_64 (n := Q.length) (by omega)
  have hN : (ft_d Q).1.toInt ≤ ((nI Q.length).toInt64 * (ft_d Q).1).toInt := by
    have b1 : 1 * (ft_d Q).1.toInt ≤ (Q.length : Int) * (ft_d Q).1.toInt := Int.mul_le_mul_of_nonneg_right (by omega) (by omega)
    have b2 : (Q.length : Int) * (ft_d Q).1.toInt ≤ 8 * 800000000000 := Int.mul_le_mul (by omega) hd2 (by omega) (by omega)
    rw [i64_mul' (by rw [n1]; omega) (by rw [n1]; omega), n1]
    omega
  unfold ft_pl
  unfold fo at ho
  refine fl_b ho (K := 2146467960) (by omega) ?_ ?_
  all_goals
    unfold ft_up
    generalize ((nI Q.length).toInt64 * (ft_d Q).1) = by' at ho hN ⊢
    generalize (nI Q.length).toInt64 * x.toInt64 - (ft_s Q).1 = eX at gX ⊢
    generalize (nI Q.length).toInt64 * y.toInt64 - (ft_s Q).2.1 = eY at gY ⊢
    generalize (ft_d Q).2.1 = A at i2 j2 ⊢
    generalize (ft_d Q).2.2 = B at i3 j3 ⊢
    generalize (ft_d Q).1 = d at hd hd2 hN i2 i3 ⊢
    generalize (ft_s Q).2.2.1 = S3 at b3 ⊢
    generalize (ft_s Q).2.2.2 = S4 at b4 ⊢
    have u0 := (up_b (d := d) (A := A) (B := B) (S := S3) (eX := eX) (eY := eY) (by omega) (by omega) gX gY i2 i3 (by omega) (by omega)).1
    have u1 := (up_b (d := d) (A := B) (B := A) (S := S4) (eX := eX) (eY := eY) (by omega) (by omega) gX gY i3 i2 (by omega) (by omega)).2
    split <;> omega
theorem sq_k {x : Int} (h : -2146472055 ≤ x ∧ x ≤ 2146472055) : 0 ≤ x * x ∧ x * x ≤ 4607342282896223025 := by
  refine ⟨?_, ?_⟩
  · rcases Int.le_total 0 x with h0 | h0
    · exact Int.mul_nonneg h0 h0
    · have := Int.mul_nonneg (show 0 ≤ -x by omega) (show 0 ≤ -x by omega)
      rwa [Int.neg_mul_neg] at this
  · rcases Int.le_total 0 x with h0 | h0
    · exact Int.le_trans (Int.mul_le_mul h.2 h.2 h0 (by omega)) (by omega)
    · have := Int.mul_le_mul (show -x ≤ 2146472055 by omega) (show -x ≤ 2146472055 by omega) (show 0 ≤ -x by omega) (by omega)
      rw [Int.neg_mul_neg] at this
      omega
theorem far_ok (Q : List ft_q) (hl : Q.length ≤ 8) (h0 : 0 < Q.length) (hb : ∀ q, q ∈ Q → fq_p q) (ho : fo Q) (hd : 0 < (ft_d Q).1.toInt) (hd2 : (ft_d Q).1.toInt ≤ 800000000000) (q : ft_q) (hq : fq_p q) : ¬ ft_m Q q = -9223372036854775808 := by
  obtain ⟨q1, q2, q3, q4⟩ := hq
  have p0 := pl_b Q hl h0 hb ho hd hd2 q.1 q.2.1 q1 q2 0
  have p1 := pl_b Q hl h0 hb ho hd hd2 q.1 q.2.1 q1 q2 1
  unfold ft_m
  generalize ft_pl Q q.1 q.2.1 0 = A at p0
  generalize ft_pl Q q.1 q.2.1 1 = B at p1
  have c1 := Int32.toInt_toInt64 q.2.2.1
  have c2 := Int32.toInt_toInt64 q.2.2.2
  have s1 := i64_sub' (a := A) (b := q.2.2.1.toInt64) (by omega) (by omega)
  have s2 := i64_sub' (a := B) (b := q.2.2.2.toInt64) (by omega) (by omega)
  generalize A - q.2.2.1.toInt64 = u at s1
  generalize B - q.2.2.2.toInt64 = v at s2
  have k1 := sq_k (x := u.toInt) (by omega)
  have k2 := sq_k (x := v.toInt) (by omega)
  have m1 := i64_mul' (a := u) (b := u) (by omega) (by omega)
  have m2 := i64_mul' (a := v) (b := v) (by omega) (by omega)
  have m3 := i64_add' (a := u * u) (b := v * v) (by omega) (by omega)
  intro e
  have l : (-9223372036854775808 : Int64).toInt = -9223372036854775808 := by decide
  rw [e, l] at m3
  omega
