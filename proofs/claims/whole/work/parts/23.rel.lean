/-! the relation between the class's cells and the reference's -/
def rl_in (lo hi v : Int32) : Prop := ¬ v < lo ∧ ¬ hi < v
/-- what a group's numbers may be: stars, or spots -/
def rl_rng (g : Nat) (x y s : Int32) : Prop := if g = 0 then rl_in (-9999) 9999 x ∧ rl_in (-9999) 9999 y ∧ rl_in 0 999 s else rl_in 0 4095 x ∧ rl_in 0 4095 y ∧ rl_in 0 255 s
def rl_apart (x y : Nat → Int32) (n : Nat) : Prop := ∀ i j, i < j → j < n → ¬ (x i = x j ∧ y i = y j)
/-- a group: the stars (0), the plates (1, 2) -/
def rl_g (h : am_H) (g : Nat) : Prop := ∃ n, n ≤ 8 ∧ h.1 (4 * g + 1) 3 = nI n ∧ h.1 78 g = nI n ∧ rl_apart (h.1 (4 * g + 2)) (h.1 (4 * g + 3)) n ∧ ∀ j, j < 8 → h.1 79 (8 * g + j) = h.1 (4 * g + 2) j ∧ h.1 80 (8 * g + j) = h.1 (4 * g + 3) j ∧ h.1 81 (8 * g + j) = h.1 (4 * g + 4) j ∧ rl_rng g (h.1 (4 * g + 2) j) (h.1 (4 * g + 3) j) (h.1 (4 * g + 4) j)
def rl_s (h : am_H) : Prop := (∀ i, i < 4 → h.1 82 i = h.1 31 i) ∧ rl_in 0 50 (h.1 31 0) ∧ rl_in 0 1000000 (h.1 31 1) ∧ rl_in 0 10000000 (h.1 31 2) ∧ rl_in 1 255 (h.1 31 3)
def rl_c (h : am_H) (c : Nat) : Prop := (h.1 23 c = 0 ∧ h.1 92 c = -9) ∨ (h.1 23 c = 1 ∧ ∃ n, n ≤ 8 ∧ h.1 (4 * c + 13) 3 = nI n ∧ h.1 92 c = nI n ∧ rl_apart (h.1 (4 * c + 14)) (h.1 (4 * c + 15)) n ∧ ∀ j, j < 8 → h.1 93 (8 * c + j) = h.1 (4 * c + 14) j ∧ h.1 94 (8 * c + j) = h.1 (4 * c + 15) j ∧ h.1 95 (8 * c + j) = h.1 (4 * c + 16) j ∧ rl_rng 1 (h.1 (4 * c + 14) j) (h.1 (4 * c + 15) j) (h.1 (4 * c + 16) j))
def rl_t (h : am_H) (t : Nat) : Prop := (h.1 (2 * t + 24) 1 = 0 ∧ h.1 96 t = -9) ∨ (h.1 (2 * t + 24) 1 = 1 ∧ ∃ n, n ≤ 8 ∧ h.1 (2 * t + 24) 3 = nI n ∧ h.1 96 t = nI n ∧ h.1 97 t = h.1 (2 * t + 24) 2 ∧ (h.1 97 t = 0 ∨ h.1 97 t = 1 ∨ h.1 97 t = 2) ∧ ∀ j, j < 8 → h.1 98 (8 * t + j) = h.1 (2 * t + 25) j)
def Rl (h : am_H) : Prop := (∀ g, g < 3 → rl_g h g) ∧ rl_s h ∧ (∀ c, c < 2 → rl_c h c) ∧ ∀ t, t < 3 → rl_t h t
/-- the cells that the relation reads are the same -/
theorem rl_g_of {h k : am_H} {g : Nat} (e1 : k.1 (4 * g + 1) 3 = h.1 (4 * g + 1) 3) (e2 : k.1 78 g = h.1 78 g) (e3 : ∀ j, j < 8 → k.1 (4 * g + 2) j = h.1 (4 * g + 2) j ∧ k.1 (4 * g + 3) j = h.1 (4 * g + 3) j ∧ k.1 (4 * g + 4) j = h.1 (4 * g + 4) j ∧ k.1 79 (8 * g + j) = h.1 79 (8 * g + j) ∧ k.1 80 (8 * g + j) = h.1 80 (8 * g + j) ∧ k.1 81 (8 * g + j) = h.1 81 (8 * g + j)) (r : rl_g h g) : rl_g k g := by
  obtain ⟨n, hn, a1, a2, a3, a4⟩ := r
  refine ⟨n, hn, by rw [e1]; exact a1, by rw [e2]; exact a2, fun i j hi hj => ?_, fun j hj => ?_⟩
  · obtain ⟨b1, b2, -⟩ := e3 i (by omega)
    obtain ⟨c1, c2, -⟩ := e3 j (by omega)
    rw [b1, b2, c1, c2]
    exact a3 i j hi hj
  · obtain ⟨b1, b2, b3, b4, b5, b6⟩ := e3 j hj
    rw [b1, b2, b3, b4, b5, b6]
    exact a4 j hj
theorem rl_s_of {h k : am_H} (e : ∀ i, i < 4 → k.1 31 i = h.1 31 i ∧ k.1 82 i = h.1 82 i) (r : rl_s h) : rl_s k := by
  obtain ⟨a1, a2, a3, a4, a5⟩ := r
  refine ⟨fun i hi => by rw [(e i hi).1, (e i hi).2]; exact a1 i hi, ?_, ?_, ?_, ?_⟩
  · rw [(e 0 (by omega)).1]; exact a2
  · rw [(e 1 (by omega)).1]; exact a3
  · rw [(e 2 (by omega)).1]; exact a4
  · rw [(e 3 (by omega)).1]; exact a5
theorem rl_c_of {h k : am_H} {c : Nat} (e0 : k.1 23 c = h.1 23 c) (e1 : k.1 (4 * c + 13) 3 = h.1 (4 * c + 13) 3) (e2 : k.1 92 c = h.1 92 c) (e3 : ∀ j, j < 8 → k.1 (4 * c + 14) j = h.1 (4 * c + 14) j ∧ k.1 (4 * c + 15) j = h.1 (4 * c + 15) j ∧ k.1 (4 * c + 16) j = h.1 (4 * c + 16) j ∧ k.1 93 (8 * c + j) = h.1 93 (8 * c + j) ∧ k.1 94 (8 * c + j) = h.1 94 (8 * c + j) ∧ k.1 95 (8 * c + j) = h.1 95 (8 * c + j)) (r : rl_c h c) : rl_c k c := by
  rcases r with ⟨a1, a2⟩ | ⟨a0, n, hn, a1, a2, a3, a4⟩
  · exact Or.inl ⟨by rw [e0]; exact a1, by rw [e2]; exact a2⟩
  · refine Or.inr ⟨by rw [e0]; exact a0, n, hn, by rw [e1]; exact a1, by rw [e2]; exact a2, fun i j hi hj => ?_, fun j hj => ?_⟩
    · obtain ⟨b1, b2, -⟩ := e3 i (by omega)
      obtain ⟨c1, c2, -⟩ := e3 j (by omega)
      rw [b1, b2, c1, c2]
      exact a3 i j hi hj
    · obtain ⟨b1, b2, b3, b4, b5, b6⟩ := e3 j hj
      rw [b1, b2, b3, b4, b5, b6]
      exact a4 j hj
theorem rl_t_of {h k : am_H} {t : Nat} (e0 : ∀ b, b < 4 → k.1 (2 * t + 24) b = h.1 (2 * t + 24) b) (e1 : k.1 96 t = h.1 96 t) (e2 : k.1 97 t = h.1 97 t) (e3 : ∀ j, j < 8 → k.1 (2 * t + 25) j = h.1 (2 * t + 25) j ∧ k.1 98 (8 * t + j) = h.1 98 (8 * t + j)) (r : rl_t h t) : rl_t k t := by
  rcases r with ⟨a1, a2⟩ | ⟨a0, n, hn, a1, a2, a3, a4, a5⟩
  · exact Or.inl ⟨by rw [e0 1 (by omega)]; exact a1, by rw [e1]; exact a2⟩
  · refine Or.inr ⟨by rw [e0 1 (by omega)]; exact a0, n, hn, by rw [e0 3 (by omega)]; exact a1, by rw [e1]; exact a2, by rw [e2, e0 2 (by omega)]; exact a3, by rw [e2]; exact a4, fun j hj => ?_⟩
    rw [(e3 j hj).1, (e3 j hj).2]
    exact a5 j hj
/-- both answer alike, and stay related -/
def Sm (fx fm : List Value → am_H → am_R) (av : List Value) : Prop := ∀ h, Rl h → ∃ v h1 h2, fx (.ref 0 :: av) h = some (some v, h1) ∧ fm (.ref 77 :: av) h1 = some (some v, h2) ∧ Rl h2
/-- nothing that the relation reads is changed -/
theorem Rl_of {h k : am_H} (e1 : ∀ a, a ≤ 31 → k.1 a = h.1 a) (e2 : ∀ a, 78 ≤ a → a ≤ 82 → k.1 a = h.1 a) (e3 : ∀ a, 92 ≤ a → a ≤ 98 → k.1 a = h.1 a) (r : Rl h) : Rl k := by
  obtain ⟨r1, r2, r3, r4⟩ := r
  refine ⟨fun g hg => rl_g_of ?_ ?_ (fun j hj => ⟨?_, ?_, ?_, ?_, ?_, ?_⟩) (r1 g hg), rl_s_of (fun i hi => ⟨?_, ?_⟩) r2, fun c hc => rl_c_of ?_ ?_ ?_ (fun j hj => ⟨?_, ?_, ?_, ?_, ?_, ?_⟩) (r3 c hc), fun t ht => rl_t_of (fun b hb => ?_) ?_ ?_ (fun j hj => ⟨?_, ?_⟩) (r4 t ht)⟩
  all_goals first
    | rw [e1 _ (by omega)]
    | rw [e2 _ (by omega) (by omega)]
    | rw [e3 _ (by omega) (by omega)]
