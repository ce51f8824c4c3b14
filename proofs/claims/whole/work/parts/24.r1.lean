/-! star, unstar, spot, unspot, ofStar, ofSpot -/
theorem pl_any_no {x y : Nat → Int32} {a b : Int32} {n : Nat} (h : pl_any x y a b n = false) {i : Nat} (hi : i < n) : ¬ (x i = a ∧ y i = b) := by
  intro hz
  unfold pl_any at h
  rw [List.any_eq_false] at h
  exact h i (List.mem_range.mpr hi) (by simpa using hz)
theorem pl_any_cong {x y x2 y2 : Nat → Int32} {a b : Int32} {n : Nat} (h : ∀ j, j < n → x j = x2 j ∧ y j = y2 j) : pl_any x y a b n = pl_any x2 y2 a b n := by
  unfold pl_any
  rw [Bool.eq_iff_iff, List.any_eq_true, List.any_eq_true]
  constructor
  · rintro ⟨j, hj, hz⟩
    obtain ⟨e1, e2⟩ := h j (List.mem_range.mp hj)
    exact ⟨j, hj, by rw [e1, e2] at hz; exact hz⟩
  · rintro ⟨j, hj, hz⟩
    obtain ⟨e1, e2⟩ := h j (List.mem_range.mp hj)
    exact ⟨j, hj, by rw [e1, e2]; exact hz⟩
/-- a new one at the end of a group -/
theorem Rl_add {h : am_H} {g n : Nat} {a b c : Int32} (hg : g < 3) (hn : n < 8) (hc : h.1 (4 * g + 1) 3 = nI n) (hf : pl_any (h.1 (4 * g + 2)) (h.1 (4 * g + 3)) a b n = false) (hr : rl_rng g a b c) (r : Rl h) :
    Rl (am_ui (am_ui (am_ui (am_ui (am_ui (am_ui (am_ui (am_ui h (4 * g + 2) n a) (4 * g + 3) n b) (4 * g + 4) n c) (4 * g + 1) 3 (nI (n + 1))) 79 (8 * g + n) a) 80 (8 * g + n) b) 81 (8 * g + n) c) 78 g (nI (n + 1))) := by
  obtain ⟨r1, r2, r3, r4⟩ := r
  refine ⟨fun q hq => ?_, rl_s_of (fun i hi => ⟨?_, ?_⟩) r2, fun q hq => rl_c_of ?_ ?_ ?_ (fun j hj => ⟨?_, ?_, ?_, ?_, ?_, ?_⟩) (r3 q hq), fun t ht => rl_t_of (fun b hb => ?_) ?_ ?_ (fun j hj => ⟨?_, ?_⟩) (r4 t ht)⟩
  · by_cases e : q = g
    · subst e
      obtain ⟨n2, hn2, a1, a2, a3, a4⟩ := r1 q hq
      have e2 : n2 = n := (nI_eq (by omega) (by omega)).mp (a1.symm.trans hc)
      subst e2
      refine ⟨n2 + 1, by omega, ?_, ?_, fun i j hi hj => ?_, fun j hj => ?_⟩
      · ((try simp only [am_ui_1, am_ui_2, true_and, and_true, and_self, if_true, reduceIte]); (repeat first | rw [if_neg (by omega)] | rw [if_pos (by omega)]); try rfl)
      · ((try simp only [am_ui_1, am_ui_2, true_and, and_true, and_self, if_true, reduceIte]); (repeat first | rw [if_neg (by omega)] | rw [if_pos (by omega)]); try rfl)
      · by_cases ej : j = n2
        · subst ej
          have hx : ∀ i, i ≠ j → (am_ui (am_ui (am_ui (am_ui (am_ui (am_ui (am_ui (am_ui h (4 * q + 2) j a) (4 * q + 3) j b) (4 * q + 4) j c) (4 * q + 1) 3 (nI (j + 1))) 79 (8 * q + j) a) 80 (8 * q + j) b) 81 (8 * q + j) c) 78 q (nI (j + 1))).1 (4 * q + 2) i = h.1 (4 * q + 2) i := fun i hi => by ((try simp only [am_ui_1, am_ui_2, true_and, and_true, and_self, if_true, reduceIte]); (repeat first | rw [if_neg (by omega)] | rw [if_pos (by omega)]); try rfl)
          have hy : ∀ i, i ≠ j → (am_ui (am_ui (am_ui (am_ui (am_ui (am_ui (am_ui (am_ui h (4 * q + 2) j a) (4 * q + 3) j b) (4 * q + 4) j c) (4 * q + 1) 3 (nI (j + 1))) 79 (8 * q + j) a) 80 (8 * q + j) b) 81 (8 * q + j) c) 78 q (nI (j + 1))).1 (4 * q + 3) i = h.1 (4 * q + 3) i := fun i hi => by ((try simp only [am_ui_1, am_ui_2, true_and, and_true, and_self, if_true, reduceIte]); (repeat first | rw [if_neg (by omega)] | rw [if_pos (by omega)]); try rfl)
          have hx2 : (am_ui (am_ui (am_ui (am_ui (am_ui (am_ui (am_ui (am_ui h (4 * q + 2) j a) (4 * q + 3) j b) (4 * q + 4) j c) (4 * q + 1) 3 (nI (j + 1))) 79 (8 * q + j) a) 80 (8 * q + j) b) 81 (8 * q + j) c) 78 q (nI (j + 1))).1 (4 * q + 2) j = a := by ((try simp only [am_ui_1, am_ui_2, true_and, and_true, and_self, if_true, reduceIte]); (repeat first | rw [if_neg (by omega)] | rw [if_pos (by omega)]); try rfl)
          have hy2 : (am_ui (am_ui (am_ui (am_ui (am_ui (am_ui (am_ui (am_ui h (4 * q + 2) j a) (4 * q + 3) j b) (4 * q + 4) j c) (4 * q + 1) 3 (nI (j + 1))) 79 (8 * q + j) a) 80 (8 * q + j) b) 81 (8 * q + j) c) 78 q (nI (j + 1))).1 (4 * q + 3) j = b := by ((try simp only [am_ui_1, am_ui_2, true_and, and_true, and_self, if_true, reduceIte]); (repeat first | rw [if_neg (by omega)] | rw [if_pos (by omega)]); try rfl)
          rw [hx i (by omega), hy i (by omega), hx2, hy2]
          exact pl_any_no hf hi
        · have hx : ∀ i, i ≠ n2 → (am_ui (am_ui (am_ui (am_ui (am_ui (am_ui (am_ui (am_ui h (4 * q + 2) n2 a) (4 * q + 3) n2 b) (4 * q + 4) n2 c) (4 * q + 1) 3 (nI (n2 + 1))) 79 (8 * q + n2) a) 80 (8 * q + n2) b) 81 (8 * q + n2) c) 78 q (nI (n2 + 1))).1 (4 * q + 2) i = h.1 (4 * q + 2) i := fun i hi => by ((try simp only [am_ui_1, am_ui_2, true_and, and_true, and_self, if_true, reduceIte]); (repeat first | rw [if_neg (by omega)] | rw [if_pos (by omega)]); try rfl)
          have hy : ∀ i, i ≠ n2 → (am_ui (am_ui (am_ui (am_ui (am_ui (am_ui (am_ui (am_ui h (4 * q + 2) n2 a) (4 * q + 3) n2 b) (4 * q + 4) n2 c) (4 * q + 1) 3 (nI (n2 + 1))) 79 (8 * q + n2) a) 80 (8 * q + n2) b) 81 (8 * q + n2) c) 78 q (nI (n2 + 1))).1 (4 * q + 3) i = h.1 (4 * q + 3) i := fun i hi => by ((try simp only [am_ui_1, am_ui_2, true_and, and_true, and_self, if_true, reduceIte]); (repeat first | rw [if_neg (by omega)] | rw [if_pos (by omega)]); try rfl)
          rw [hx i (by omega), hy i (by omega), hx j (by omega), hy j (by omega)]
          exact a3 i j hi (by omega)
      · by_cases ej : j = n2
        · subst ej
          have e1 : ∀ (z : Nat) (w : Int32), z = 4 * q + 2 ∧ w = a ∨ z = 4 * q + 3 ∧ w = b ∨ z = 4 * q + 4 ∧ w = c → (am_ui (am_ui (am_ui (am_ui (am_ui (am_ui (am_ui (am_ui h (4 * q + 2) j a) (4 * q + 3) j b) (4 * q + 4) j c) (4 * q + 1) 3 (nI (j + 1))) 79 (8 * q + j) a) 80 (8 * q + j) b) 81 (8 * q + j) c) 78 q (nI (j + 1))).1 z j = w := by
            rintro z w (⟨rfl, rfl⟩ | ⟨rfl, rfl⟩ | ⟨rfl, rfl⟩)
            · ((try simp only [am_ui_1, am_ui_2, true_and, and_true, and_self, if_true, reduceIte]); (repeat first | rw [if_neg (by omega)] | rw [if_pos (by omega)]); try rfl)
            · ((try simp only [am_ui_1, am_ui_2, true_and, and_true, and_self, if_true, reduceIte]); (repeat first | rw [if_neg (by omega)] | rw [if_pos (by omega)]); try rfl)
            · ((try simp only [am_ui_1, am_ui_2, true_and, and_true, and_self, if_true, reduceIte]); (repeat first | rw [if_neg (by omega)] | rw [if_pos (by omega)]); try rfl)
          rw [e1 _ a (Or.inl ⟨rfl, rfl⟩), e1 _ b (Or.inr (Or.inl ⟨rfl, rfl⟩)), e1 _ c (Or.inr (Or.inr ⟨rfl, rfl⟩))]
          refine ⟨?_, ?_, ?_, hr⟩
          · ((try simp only [am_ui_1, am_ui_2, true_and, and_true, and_self, if_true, reduceIte]); (repeat first | rw [if_neg (by omega)] | rw [if_pos (by omega)]); try rfl)
          · ((try simp only [am_ui_1, am_ui_2, true_and, and_true, and_self, if_true, reduceIte]); (repeat first | rw [if_neg (by omega)] | rw [if_pos (by omega)]); try rfl)
          · ((try simp only [am_ui_1, am_ui_2, true_and, and_true, and_self, if_true, reduceIte]); (repeat first | rw [if_neg (by omega)] | rw [if_pos (by omega)]); try rfl)
        · obtain ⟨b1, b2, b3, b4⟩ := a4 j hj
          have e1 : ∀ z, z = 4 * q + 2 ∨ z = 4 * q + 3 ∨ z = 4 * q + 4 → (am_ui (am_ui (am_ui (am_ui (am_ui (am_ui (am_ui (am_ui h (4 * q + 2) n2 a) (4 * q + 3) n2 b) (4 * q + 4) n2 c) (4 * q + 1) 3 (nI (n2 + 1))) 79 (8 * q + n2) a) 80 (8 * q + n2) b) 81 (8 * q + n2) c) 78 q (nI (n2 + 1))).1 z j = h.1 z j := by
            intro z hz
            ((try simp only [am_ui_1, am_ui_2, true_and, and_true, and_self, if_true, reduceIte]); (repeat first | rw [if_neg (by omega)] | rw [if_pos (by omega)]); try rfl)
          rw [e1 _ (Or.inl rfl), e1 _ (Or.inr (Or.inl rfl)), e1 _ (Or.inr (Or.inr rfl))]
          refine ⟨?_, ?_, ?_, b4⟩
          · rw [← b1]; ((try simp only [am_ui_1, am_ui_2, true_and, and_true, and_self, if_true, reduceIte]); (repeat first | rw [if_neg (by omega)] | rw [if_pos (by omega)]); try rfl)
          · rw [← b2]; ((try simp only [am_ui_1, am_ui_2, true_and, and_true, and_self, if_true, reduceIte]); (repeat first | rw [if_neg (by omega)] | rw [if_pos (by omega)]); try rfl)
          · rw [← b3]; ((try simp only [am_ui_1, am_ui_2, true_and, and_true, and_self, if_true, reduceIte]); (repeat first | rw [if_neg (by omega)] | rw [if_pos (by omega)]); try rfl)
    · refine rl_g_of ?_ ?_ (fun j hj => ⟨?_, ?_, ?_, ?_, ?_, ?_⟩) (r1 q hq)
      all_goals ((try simp only [am_ui_1, am_ui_2, true_and, and_true, and_self, if_true, reduceIte]); (repeat first | rw [if_neg (by omega)] | rw [if_pos (by omega)]); try rfl)
  all_goals ((try simp only [am_ui_1, am_ui_2, true_and, and_true, and_self, if_true, reduceIte]); (repeat first | rw [if_neg (by omega)] | rw [if_pos (by omega)]); try rfl)
/-- one less at the end of a group -/
theorem Rl_less {h : am_H} {g n : Nat} (hg : g < 3) (hn : n < 8) (hc : h.1 (4 * g + 1) 3 = nI (n + 1)) (r : Rl h) : Rl (am_ui (am_ui h (4 * g + 1) 3 (nI n)) 78 g (nI n)) := by
  obtain ⟨r1, r2, r3, r4⟩ := r
  refine ⟨fun q hq => ?_, rl_s_of (fun i hi => ⟨?_, ?_⟩) r2, fun q hq => rl_c_of ?_ ?_ ?_ (fun j hj => ⟨?_, ?_, ?_, ?_, ?_, ?_⟩) (r3 q hq), fun t ht => rl_t_of (fun b hb => ?_) ?_ ?_ (fun j hj => ⟨?_, ?_⟩) (r4 t ht)⟩
  · by_cases e : q = g
    · subst e
      obtain ⟨n2, hn2, a1, a2, a3, a4⟩ := r1 q hq
      have e2 : n2 = n + 1 := (nI_eq (by omega) (by omega)).mp (a1.symm.trans hc)
      subst e2
      have e1 : ∀ z j, z = 4 * q + 2 ∨ z = 4 * q + 3 ∨ z = 4 * q + 4 ∨ (79 ≤ z ∧ z ≤ 81) → (am_ui (am_ui h (4 * q + 1) 3 (nI n)) 78 q (nI n)).1 z j = h.1 z j := by
        intro z j hz
        ((try simp only [am_ui_1, am_ui_2, true_and, and_true, and_self, if_true, reduceIte]); (repeat first | rw [if_neg (by omega)] | rw [if_pos (by omega)]); try rfl)
      refine ⟨n, by omega, ?_, ?_, fun i j hi hj => ?_, fun j hj => ?_⟩
      · ((try simp only [am_ui_1, am_ui_2, true_and, and_true, and_self, if_true, reduceIte]); (repeat first | rw [if_neg (by omega)] | rw [if_pos (by omega)]); try rfl)
      · ((try simp only [am_ui_1, am_ui_2, true_and, and_true, and_self, if_true, reduceIte]); (repeat first | rw [if_neg (by omega)] | rw [if_pos (by omega)]); try rfl)
      · rw [e1 _ _ (by omega), e1 _ _ (by omega), e1 _ _ (by omega), e1 _ _ (by omega)]
        exact a3 i j hi (by omega)
      · rw [e1 _ _ (by omega), e1 _ _ (by omega), e1 _ _ (by omega), e1 _ _ (by omega), e1 _ _ (by omega), e1 _ _ (by omega)]
        exact a4 j hj
    · refine rl_g_of ?_ ?_ (fun j hj => ⟨?_, ?_, ?_, ?_, ?_, ?_⟩) (r1 q hq)
      all_goals ((try simp only [am_ui_1, am_ui_2, true_and, and_true, and_self, if_true, reduceIte]); (repeat first | rw [if_neg (by omega)] | rw [if_pos (by omega)]); try rfl)
  all_goals ((try simp only [am_ui_1, am_ui_2, true_and, and_true, and_self, if_true, reduceIte]); (repeat first | rw [if_neg (by omega)] | rw [if_pos (by omega)]); try rfl)
