/-! findTriple tells what measure tells -/
theorem rf_put (q : Nat) (hq : q < 3) (i j k : Nat) (X Y : Nat → Int32) (h h1 h2 : am_H) (A B C l m g : Int64) (a b c : Nat) (ha : a < 8) (hb : b < 8) (hc : c < 8) (eX : (fun z => h.1 79 (8 * q + z)) = X) (eY : (fun z => h.1 80 (8 * q + z)) = Y) (f1 : rf_fr h h1) (hr : am_Re GX9_findTriple cX9_findTriple (0, [some (.ref 77), some (.int (nI q)), some (.int (nI i)), some (.int (nI j)), some (.int (nI k)), none, none, none, none, none, none, none, none, none, none, none, none], [], h) (265, [some (.ref 77), some (.int (nI q)), some (.int (nI i)), some (.int (nI j)), some (.int (nI k)), some (.long A), none, some (.long B), none, some (.long C), none, some (.long l), none, some (.long g), none, some (.long m), none], [], am_ui (am_ui (am_ui h1 77 5 (nI a)) 77 6 (nI b)) 77 7 (nI c))) (es : ts_sort X Y i j k = ((l, a), (m, b), (g, c))) (hl : l < m) (hm : m < g) (hg : ¬ g ≤ 0) (hw : ¬ ts_tw X Y a b c = 0) : ∃ h2, fX9_findTriple [.ref 77, .int (nI q), .int (nI i), .int (nI j), .int (nI k)] h = some (none, h2) ∧ rf_res h2 (ts_tri X Y i j k) ∧ rf_fr h h2 := by
  have f2 : rf_fr h (am_ui (am_ui (am_ui h1 77 5 (nI a)) 77 6 (nI b)) 77 7 (nI c)) := rf_fr_tr f1 (rf_fr_tr (rf_fr_ui _ 5 (by omega) _) (rf_fr_tr (rf_fr_ui _ 6 (by omega) _) (rf_fr_ui _ 7 (by omega) _)))
  have g5 : (am_ui (am_ui (am_ui h1 77 5 (nI a)) 77 6 (nI b)) 77 7 (nI c)).1 77 5 = nI a := by simp [am_ui]
  have g6 : (am_ui (am_ui (am_ui h1 77 5 (nI a)) 77 6 (nI b)) 77 7 (nI c)).1 77 6 = nI b := by simp [am_ui]
  have g7 : (am_ui (am_ui (am_ui h1 77 5 (nI a)) 77 6 (nI b)) 77 7 (nI c)).1 77 7 = nI c := by simp [am_ui]
  generalize am_ui (am_ui (am_ui h1 77 5 (nI a)) 77 6 (nI b)) 77 7 (nI c) = h3 at hr f2 g5 g6 g7
  have tw : ∀ x y, fX9_twist [.ref 77, .int (nI q), .int (nI a), .int (nI b), .int (nI c)] (am_ui (am_ui h3 77 8 x) 77 9 y) = some (some (.long (ts_tw X Y a b c)), am_ui (am_ui h3 77 8 x) 77 9 y) := by
    intro x y
    have f3 : rf_fr h (am_ui (am_ui h3 77 8 x) 77 9 y) := rf_fr_tr f2 (rf_fr_tr (rf_fr_ui _ 8 (by omega) _) (rf_fr_ui _ 9 (by omega) _))
    have t := m_X9_twist q hq a b c ha hb hc (am_ui (am_ui h3 77 8 x) 77 9 y)
    rw [f3.2.1 79 (by omega), f3.2.1 80 (by omega), eX, eY] at t
    exact t
  have hg0 : ¬ g = 0 := fun e => hg (by rw [e]; decide)
  have r4 := m_ft4 q i j k h3 A B C l g m a b c _ g5 g6 g7 tw hg0
  refine ⟨_, am_run2 _ rfl rfl rfl (hr _ r4), ?_, rf_fr_tr f2 (rf_fr_tr (rf_fr_ui _ 8 (by omega) _) (rf_fr_tr (rf_fr_ui _ 9 (by omega) _) (rf_fr_ui _ 10 (by omega) _)))⟩
  right
  refine ⟨_, ts_tri_s ?_, ?_⟩
  · rw [es, ts_flat]
    rintro (z | z | z | z)
    · exact hw z
    · exact (i64_ne hl).1 z
    · exact (i64_ne hm).1 z
    · exact hg z
  · rw [es, ts_val]
    refine ⟨?_, ?_, ?_, ?_, ?_, ?_⟩ <;> simp [am_ui, *]
theorem i64_0lt {l g : Int64} (h0 : 0 ≤ l.toInt) (h : l < g) : ¬ g ≤ 0 := by
  simp only [Int64.lt_iff_toInt_lt, Int64.le_iff_toInt_le, Int64.toInt_zero] at *
  omega
theorem i64_ord {A B C : Int64} (n1 : ¬ A = B) (n2 : ¬ B = C) (n3 : ¬ A = C) : (A < B ∧ B < C ∧ A < C) ∨ (A < C ∧ C < B ∧ A < B) ∨ (B < A ∧ A < C ∧ B < C) ∨ (B < C ∧ C < A ∧ B < A) ∨ (C < A ∧ A < B ∧ C < B) ∨ (C < B ∧ B < A ∧ C < A) := by
  simp only [Int64.lt_iff_toInt_lt, ← Int64.toInt_inj] at *
  omega
theorem m_X9_findTriple (q : Nat) (hq : q < 3) (i j k : Nat) (hi : i < 8) (hj : j < 8) (hk : k < 8) (h : am_H) (X Y : Nat → Int32) (eX : (fun z => h.1 79 (8 * q + z)) = X) (eY : (fun z => h.1 80 (8 * q + z)) = Y) (hX : ts_b X) (hY : ts_b Y) : ∃ h2, fX9_findTriple [.ref 77, .int (nI q), .int (nI i), .int (nI j), .int (nI k)] h = some (none, h2) ∧ rf_res h2 (ts_tri X Y i j k) ∧ rf_fr h h2 := by
  have ea := ts_side_0 hX hY hj hk
  have eb := ts_side_0 hX hY hi hk
  have ec := ts_side_0 hX hY hi hj
  have es : ts_sort X Y i j k = ts_so (ts_side X Y j k) (ts_side X Y i k) (ts_side X Y i j) i j k := rfl
  have r1 := m_ft1 q hq i j k hi hj hk h _ _ _ rfl rfl rfl
  rw [eX, eY] at r1
  generalize ts_side X Y j k = A at *
  generalize ts_side X Y i k = B at *
  generalize ts_side X Y i j = C at *
  have f1 : rf_fr h (am_ui h 77 10 0) := rf_fr_ui h 10 (by omega) 0
  have hz : (am_ui h 77 10 0).1 77 10 = 0 := by simp [am_ui]
  have tw := m_X9_twist q hq i j k hi hj hk (am_ui h 77 10 0)
  rw [f1.2.1 79 (by omega), f1.2.1 80 (by omega), eX, eY] at tw
  obtain ⟨p1, p2, p3, p4, p5⟩ := ts_tw_0 hX hY hi hj hk
  generalize am_ui h 77 10 0 = h1 at r1 f1 hz tw
  by_cases ht : A = B ∨ B = C ∨ A = C
  · refine ⟨h1, am_run2 _ rfl rfl rfl (r1 _ (m_ft2 q i j k h1 A B C _ tw ?_)), Or.inl ⟨ts_tri_n ?_, hz⟩, f1⟩
    · rcases ht with z | z | z
      · exact Or.inl z
      · exact Or.inr (Or.inl z)
      · exact Or.inr (Or.inr (Or.inl z))
    · rw [es, ts_flat]
      rcases ts_tie (i := i) (j := j) (k := k) ht with z | z
      · exact Or.inr (Or.inl z)
      · exact Or.inr (Or.inr (Or.inl z))
  · have n1 : ¬ A = B := fun z => ht (Or.inl z)
    have n2 : ¬ B = C := fun z => ht (Or.inr (Or.inl z))
    have n3 : ¬ A = C := fun z => ht (Or.inr (Or.inr z))
    have ord := i64_ord n1 n2 n3
    by_cases hw : ts_tw X Y i j k = 0
    · refine ⟨h1, am_run2 _ rfl rfl rfl (r1 _ (m_ft2 q i j k h1 A B C _ tw (Or.inr (Or.inr (Or.inr hw))))), Or.inl ⟨ts_tri_n ?_, hz⟩, f1⟩
      rw [es]
      left
      rcases ord with ⟨o1, o2, o3⟩ | ⟨o1, o2, o3⟩ | ⟨o1, o2, o3⟩ | ⟨o1, o2, o3⟩ | ⟨o1, o2, o3⟩ | ⟨o1, o2, o3⟩
      · rw [ts_so1 o1 o2 o3]; exact hw
      · rw [ts_so2 o1 o2 o3]; exact p2.mpr hw
      · rw [ts_so3 o1 o2 o3]; exact p1.mpr hw
      · rw [ts_so4 o1 o2 o3]; exact p3.mpr hw
      · rw [ts_so5 o1 o2 o3]; exact p4.mpr hw
      · rw [ts_so6 o1 o2 o3]; exact p5.mpr hw
    · have r3 := am_Re_tr r1 (m_ft3 q i j k h1 A B C _ tw n1 n2 n3 hw)
      rcases ord with ⟨o1, o2, o3⟩ | ⟨o1, o2, o3⟩ | ⟨o1, o2, o3⟩ | ⟨o1, o2, o3⟩ | ⟨o1, o2, o3⟩ | ⟨o1, o2, o3⟩
      · exact rf_put q hq i j k X Y h h1 h1 A B C _ _ _ i j k hi hj hk eX eY f1 (am_Re_tr r3 (m_fo1 q i j k h1 A B C o1 o2 o3 (by grind))) (es.trans (ts_so1 o1 o2 o3)) o1 o2 (i64_0lt ea o3) hw
      · exact rf_put q hq i j k X Y h h1 h1 A B C _ _ _ i k j hi hk hj eX eY f1 (am_Re_tr r3 (m_fo2 q i j k h1 A B C o1 o2 o3 (by grind))) (es.trans (ts_so2 o1 o2 o3)) o1 o2 (i64_0lt ea o3) (fun z => hw (p2.mp z))
      · exact rf_put q hq i j k X Y h h1 h1 A B C _ _ _ j i k hj hi hk eX eY f1 (am_Re_tr r3 (m_fo3 q i j k h1 A B C o1 o2 o3 (by grind))) (es.trans (ts_so3 o1 o2 o3)) o1 o2 (i64_0lt eb o3) (fun z => hw (p1.mp z))
      · exact rf_put q hq i j k X Y h h1 h1 A B C _ _ _ j k i hj hk hi eX eY f1 (am_Re_tr r3 (m_fo4 q i j k h1 A B C o1 o2 o3 (by grind))) (es.trans (ts_so4 o1 o2 o3)) o1 o2 (i64_0lt eb o3) (fun z => hw (p3.mp z))
      · exact rf_put q hq i j k X Y h h1 h1 A B C _ _ _ k i j hk hi hj eX eY f1 (am_Re_tr r3 (m_fo5 q i j k h1 A B C o1 o2 o3 (by grind))) (es.trans (ts_so5 o1 o2 o3)) o1 o2 (i64_0lt ec o3) (fun z => hw (p4.mp z))
      · exact rf_put q hq i j k X Y h h1 h1 A B C _ _ _ k j i hk hj hi eX eY f1 (am_Re_tr r3 (m_fo6 q i j k h1 A B C o1 o2 o3 (by grind))) (es.trans (ts_so6 o1 o2 o3)) o1 o2 (i64_0lt ec o3) (fun z => hw (p5.mp z))
