/-! a fit of two pairs or more; how far a pair is off -/
def ft_pl (Q : List ft_q) (x y ax : Int32) : Int64 := ft_fl (ft_up (nI Q.length).toInt64 (ft_s Q) (ft_d Q) x.toInt64 y.toInt64 ax) ((nI Q.length).toInt64 * (ft_d Q).1)
def ft_m (Q : List ft_q) (q : ft_q) : Int64 := (ft_pl Q q.1 q.2.1 0 - q.2.2.1.toInt64) * (ft_pl Q q.1 q.2.1 0 - q.2.2.1.toInt64) + (ft_pl Q q.1 q.2.1 1 - q.2.2.2.toInt64) * (ft_pl Q q.1 q.2.1 1 - q.2.2.2.toInt64)
def fo (Q : List ft_q) : Prop := 0 < ((nI Q.length).toInt64 * (ft_d Q).1).toInt
theorem fo_of (Q : List ft_q) (hl : Q.length ≤ 8) (h0 : 0 < Q.length) (hd : 0 < (ft_d Q).1.toInt) (he : (ft_d Q).1.toInt ≤ 800000000000) : fo Q := by
  unfold fo
  have n1 := nI_64 (n := Q.length) (by omega)
  generalize (ft_d Q).1 = d at hd he
  generalize (nI Q.length).toInt64 = N at n1
  have b1 : 0 < N.toInt * d.toInt := Int.mul_pos (by omega) hd
  have b2 : N.toInt * d.toInt ≤ 8 * 800000000000 := Int.mul_le_mul (by omega) he (by omega) (by omega)
  rw [i64_mul' (by omega) (by omega)]
  exact b1
theorem pml_in {M : pm_M} {a s k : Nat} : (s, k) ∈ pml M a ↔ s < a ∧ M s = some k := by
  induction a with
  | zero => simp [pml]
  | succ a ih =>
    cases em : M a with
    | none =>
      rw [pml_n em, ih]
      constructor
      · intro h; exact ⟨by omega, h.2⟩
      · intro h
        by_cases e : s = a
        · subst e; rw [em] at h; simp at h
        · exact ⟨by omega, h.2⟩
    | some j =>
      rw [pml_s em, List.mem_append, ih, List.mem_singleton]
      constructor
      · intro h
        rcases h with h | h
        · exact ⟨by omega, h.2⟩
        · cases h; exact ⟨by omega, em⟩
      · intro h
        by_cases e : s = a
        · subst e
          rw [em] at h
          right
          cases h.2
          rfl
        · left; exact ⟨by omega, h.2⟩
theorem pm_c_1 {M : pm_M} {a : Nat} (h : 1 ≤ pm_c M a) : ∃ s k, s < a ∧ M s = some k := by
  induction a with
  | zero => simp [pm_c] at h
  | succ a ih =>
    cases em : M a with
    | none =>
      rw [pm_c, em] at h
      obtain ⟨s, k, h1, h2⟩ := ih (by simpa using h)
      exact ⟨s, k, by omega, h2⟩
    | some j => exact ⟨a, j, by omega, em⟩
theorem pm_c_2 {M : pm_M} {a : Nat} (h : 2 ≤ pm_c M a) : ∃ s k t l, s < t ∧ t < a ∧ M s = some k ∧ M t = some l := by
  induction a with
  | zero => simp [pm_c] at h
  | succ a ih =>
    cases em : M a with
    | none =>
      rw [pm_c, em] at h
      obtain ⟨s, k, t, l, h1, h2, h3⟩ := ih (by simpa using h)
      exact ⟨s, k, t, l, h1, by omega, h3⟩
    | some j =>
      rw [pm_c, em] at h
      obtain ⟨s, k, h1, h2⟩ := pm_c_1 (M := M) (a := a) (by simp at h; omega)
      exact ⟨s, k, a, j, h1, by omega, h2, em⟩
theorem pm_c_n {n m : Nat} {M : pm_M} (h : pm_ok n m M) (hn : n ≤ 8) : pm_c M n = pm_c M 8 := by
  have key : ∀ d, pm_c M (n + d) = pm_c M n := by
    intro d
    induction d with
    | zero => rfl
    | succ d ih =>
      rw [show n + (d + 1) = (n + d) + 1 from rfl, pm_c, ih]
      cases em : M (n + d) with
      | none => simp
      | some k => have := (h.1 _ _ em).1; omega
  have := key (8 - n)
  rw [show n + (8 - n) = 8 by omega] at this
  exact this.symm
/-- the class's list of pairs, with what a fit of it is -/
theorem rl_q {h : am_H} (r : Rl h) {q : Nat} (hq : q < 2) {n m : Nat} (z1 : rl_n h 0 n) (z2 : rl_n h (1 + q) m) {M : pm_M} (ok : pm_ok n m M) : (pml M n).map (rp_q h 0 (1 + q)) = (pml M n).map (cq h q) ∧ ((pml M n).map (cq h q)).length = pm_c M 8 ∧ (∀ w, w ∈ (pml M n).map (cq h q) → fq_b w) ∧ (2 ≤ pm_c M 8 → 0 < (ft_d ((pml M n).map (cq h q))).1 ∧ fo ((pml M n).map (cq h q))) ∧ (ft_d ((pml M n).map (cq h q))).1.toInt ≤ 800000000000 := by
  obtain ⟨n', hn, a1, a2, a3, a4⟩ := r.1 0 (by omega)
  obtain ⟨m', hm, b1, b2, b3, b4⟩ := r.1 (1 + q) (by omega)
  have en : n' = n := nI_i (by omega) (by have := z1.1; omega) (a1.symm.trans z1.2.1)
  subst en
  have hn8 := z1.1
  have hm8 := z2.1
  have hb0 := rl_b (fun j hj => (a4 j hj).2.2.2)
  have hb1 := rl_b (fun j hj => (b4 j hj).2.2.2)
  have hl : ((pml M n').map (cq h q)).length = pm_c M 8 := by rw [List.length_map, pml_len, pm_c_n ok hn8]
  have hl8 : ((pml M n').map (cq h q)).length ≤ 8 := by rw [hl]; exact pm_c_le M 8
  have hbb : ∀ w, w ∈ (pml M n').map (cq h q) → fq_b w := by
    intro w hw
    obtain ⟨⟨s, k⟩, h1, rfl⟩ := List.mem_map.mp hw
    obtain ⟨ls, e⟩ := pml_in.mp h1
    have lk := (ok.1 s k e).2
    exact ⟨hb0.1 s (by omega), hb0.2 s (by omega), hb1.1 k (by omega), hb1.2 k (by omega)⟩
  obtain ⟨p1, p2, p3⟩ := ft_pos _ hl8 hbb
  refine ⟨?_, hl, hbb, fun h2 => ?_, p2⟩
  · refine List.map_congr_left (fun a ha => ?_)
    obtain ⟨s, k⟩ := a
    obtain ⟨ls, e⟩ := pml_in.mp ha
    have lk := (ok.1 s k e).2
    have c1 := a4 s (by omega)
    have c2 := b4 k (by omega)
    unfold rp_q cq
    dsimp only
    rw [c1.1, c1.2.1, c2.1, c2.2.1]
  · obtain ⟨s, k, t, l, e1, e2, e3, e4⟩ := pm_c_2 (M := M) (a := n') (by rw [pm_c_n ok hn8]; exact h2)
    have d0 := p3 (cq h q (s, k)) (cq h q (t, l)) (List.mem_map.mpr ⟨_, pml_in.mpr ⟨by omega, e3⟩, rfl⟩) (List.mem_map.mpr ⟨_, pml_in.mpr ⟨e2, e4⟩, rfl⟩) (a3 s t e1 e2)
    refine ⟨?_, fo_of _ hl8 (by omega) d0 p2⟩
    rw [Int64.lt_iff_toInt_lt, Int64.toInt_zero]
    exact d0
