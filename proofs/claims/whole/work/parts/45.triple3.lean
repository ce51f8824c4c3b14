/-! triple, at last -/
theorem ts_tri_cg {X Y X' Y' : Nat → Int32} (hX : ∀ a, a < 8 → X a = X' a) (hY : ∀ a, a < 8 → Y a = Y' a) {i j k : Nat} (hi : i < 8) (hj : j < 8) (hk : k < 8) : ts_tri X Y i j k = ts_tri X' Y' i j k := by
  have e1 : ts_sort X Y i j k = ts_sort X' Y' i j k := by
    unfold ts_sort ts_side
    rw [hX i hi, hX j hj, hX k hk, hY i hi, hY j hj, hY k hk]
  have hc := ts_sort_c (P := fun z => z < 8) (X := X') (Y := Y') ⟨hi, hj, hk⟩
  unfold ts_tri
  rw [e1]
  generalize ts_sort X' Y' i j k = t at hc ⊢
  obtain ⟨c1, c2, c3⟩ := hc
  have e2 : ts_tw X Y t.1.2 t.2.1.2 t.2.2.2 = ts_tw X' Y' t.1.2 t.2.1.2 t.2.2.2 := by
    unfold ts_tw
    rw [hX _ c1, hX _ c2, hX _ c3, hY _ c1, hY _ c2, hY _ c3]
  have e3 : ts_flat X Y t = ts_flat X' Y' t := by unfold ts_flat; rw [e2]
  have e4 : ts_val X Y t = ts_val X' Y' t := by unfold ts_val; rw [e2]
  rw [e3, e4]
theorem ts_b_cg {X X' : Nat → Int32} (hX : ∀ a, a < 8 → X a = X' a) (h : ts_b X') : ts_b X := fun a ha => by rw [hX a ha]; exact h a ha
/-- the class's scratch alone is changed -/
def cs_fr (h k : am_H) : Prop := ∀ a, (a ≤ 31 ∨ 77 ≤ a) → k.1 a = h.1 a ∧ k.2 a = h.2 a
/-- the reference's scratch alone is changed -/
def rs_fr (h k : am_H) : Prop := ∀ a, (a ≤ 76 ∨ (78 ≤ a ∧ a ≤ 82) ∨ 92 ≤ a) → k.1 a = h.1 a ∧ k.2 a = h.2 a
theorem cs_rf (h : am_H) : cs_fr h h := fun _ _ => ⟨rfl, rfl⟩
theorem rs_rf (h : am_H) : rs_fr h h := fun _ _ => ⟨rfl, rfl⟩
theorem cs_tr {a b c : am_H} (h1 : cs_fr a b) (h2 : cs_fr b c) : cs_fr a c := fun z hz => ⟨(h2 z hz).1.trans (h1 z hz).1, (h2 z hz).2.trans (h1 z hz).2⟩
theorem rs_tr {a b c : am_H} (h1 : rs_fr a b) (h2 : rs_fr b c) : rs_fr a c := fun z hz => ⟨(h2 z hz).1.trans (h1 z hz).1, (h2 z hz).2.trans (h1 z hz).2⟩
theorem Rl_cs {h k : am_H} (f : cs_fr h k) (r : Rl h) : Rl k := Rl_of (fun a ha => (f a (by omega)).1) (fun a ha hb => (f a (by omega)).1) (fun a ha hb => (f a (by omega)).1) r
theorem Rl_rs {h k : am_H} (f : rs_fr h k) (r : Rl h) : Rl k := Rl_of (fun a ha => (f a (by omega)).1) (fun a ha hb => (f a (by omega)).1) (fun a ha hb => (f a (by omega)).1) r
theorem cs_se {h k : am_H} {s : Nat} (hs : 32 ≤ s) (hs2 : s + 2 ≤ 76) (f : se_fr h k s) : cs_fr h k := fun a ha => f.1 a (by omega)
theorem rs_rf_fr {h k : am_H} (f : rf_fr h k) : rs_fr h k := fun a ha => ⟨f.2.1 a (by omega), by rw [f.1]⟩
/-- a triple of a group: both find the same -/
theorem rl_tri {h : am_H} (r : Rl h) {g : Nat} (hg : g < 3) {i j k : Nat} (hi : i < 8) (hj : j < 8) (hk : k < 8) : ∃ o h1 h2, (∀ u, o = some u → u.2.2.1 = -1 ∨ u.2.2.1 = 1) ∧ fX5_measure [.ref 32, .ref (4 * g + 1), .int (nI i), .int (nI j), .int (nI k)] h = some (none, h1) ∧ se_res h1 32 o ∧ cs_fr h h1 ∧ fX9_findTriple [.ref 77, .int (nI g), .int (nI i), .int (nI j), .int (nI k)] h1 = some (none, h2) ∧ rf_res h2 o ∧ rs_fr h1 h2 := by
  obtain ⟨h1, m1, m2, m3⟩ := m_X5_measure 32 se_32 (4 * g + 1) (dt_g hg) (by omega) i j k hi hj hk h
  have f1 := cs_se (by omega) (by omega) m3
  obtain ⟨n, hn, a1, a2, a3, a4⟩ := (Rl_cs f1 r).1 g hg
  have hX : ∀ a, a < 8 → (fun z => h1.1 79 (8 * g + z)) a = h1.1 (4 * g + 2) a := fun a ha => (a4 a ha).1
  have hY : ∀ a, a < 8 → (fun z => h1.1 80 (8 * g + z)) a = h1.1 (4 * g + 3) a := fun a ha => (a4 a ha).2.1
  have hb := rl_b (fun j hj => (a4 j hj).2.2.2)
  obtain ⟨h2, k1, k2, k3⟩ := m_X9_findTriple g hg i j k hi hj hk h1 _ _ rfl rfl (ts_b_cg hX hb.1) (ts_b_cg hY hb.2)
  rw [ts_tri_cg hX hY hi hj hk, (f1 (4 * g + 2) (by omega)).1, (f1 (4 * g + 3) (by omega)).1] at k2
  exact ⟨_, h1, h2, fun u e => ts_turn e, m1, m2, f1, k1, k2, rs_rf_fr k3⟩
theorem r_triple (p i j k w : Int32) : Sm fX8_triple fX9_triple [.int p, .int i, .int j, .int k, .int w] := by
  intro h r
  rcases tp_cases p with hp | ⟨g, hg, ep, hp⟩
  · exact ⟨_, h, h, am_run2 _ rfl rfl rfl (c_trp p i j k w hp h), am_run2 _ rfl rfl rfl (d_trp p i j k w hp h), r⟩
  · have r1 := c_trg p i j k w g hg ep h
    obtain ⟨n, hn, a1, a2, a3, a4⟩ := r.1 g hg
    obtain ⟨t0, t1⟩ := d_three g hg i j k n hn h a2
    have hd := dt_g hg
    by_cases hb : tr_bad n i j k
    · exact ⟨_, h, h, am_run2 _ rfl rfl rfl (r1 _ (c_tr1 p i j k w _ n hd h a1 hb)), am_run2 _ rfl rfl rfl (d_tr0 p i j k w g hp ep h (t0 hb)), r⟩
    · have r2 := am_Re_tr r1 (c_tr2 p i j k w _ n hd h a1 hb)
      have hb2 := hb
      unfold tr_bad tr_no at hb
      simp only [not_or] at hb
      obtain ⟨b1, b2, b3, -, -, -⟩ := hb
      obtain ⟨i, hi, rfl⟩ : ∃ q : Nat, q < n ∧ i = nI q := by
        rcases th_cases i hn with z | ⟨q, h1, h2, -⟩
        · exact absurd z (not_or.mpr b1)
        · exact ⟨q, h1, h2⟩
      obtain ⟨j, hj, rfl⟩ : ∃ q : Nat, q < n ∧ j = nI q := by
        rcases th_cases j hn with z | ⟨q, h1, h2, -⟩
        · exact absurd z (not_or.mpr b2)
        · exact ⟨q, h1, h2⟩
      obtain ⟨k, hk, rfl⟩ : ∃ q : Nat, q < n ∧ k = nI q := by
        rcases th_cases k hn with z | ⟨q, h1, h2, -⟩
        · exact absurd z (not_or.mpr b3)
        · exact ⟨q, h1, h2⟩
      by_cases ho : w < 0 ∨ 5 < w
      · exact ⟨_, h, h, am_run2 _ rfl rfl rfl (r2 _ (c_trO p _ _ _ w _ h ho)), am_run2 _ rfl rfl rfl (d_trO p _ _ _ w g hp ep h (t1 hb2) ho), r⟩
      · obtain ⟨o, h1, h2, ou, m1, m2, m3, m4, m5, m6⟩ := rl_tri r hg (i := i) (j := j) (k := k) (by omega) (by omega) (by omega)
        have r' := Rl_cs m3 r
        have r3 := am_Re_tr r2 (c_tr3 p w i j k _ h h1 ho m1)
        have e78 : h1.1 78 g = nI n := by rw [(m3 78 (by omega)).1]; exact a2
        have q3 := d_tr1 p _ _ _ w g hp ep h1 h2 ((d_three g hg _ _ _ n hn h1 e78).2 hb2) m4 ho
        have r'' := Rl_rs m6 r'
        rcases m2 with ⟨o1, o2⟩ | ⟨v, rfl, v0, v1, v2, v3, v4, v5, v6⟩
        · rcases m5 with ⟨o3, o4⟩ | ⟨u, ue, u0⟩
          · exact ⟨_, h1, h2, am_run2 _ rfl rfl rfl (r3 _ (c_twF p _ _ _ w _ h1 o2)), am_run2 _ rfl rfl rfl (q3 _ (d_twF p _ _ _ w h2 o4)), r''⟩
          · rw [o1] at ue
            exact absurd ue (by simp)
        · rcases m5 with ⟨o3, o4⟩ | ⟨u, ue, u0, u1, u2, u3, u4, u5⟩
          · exact absurd o3 (by simp)
          · cases ue
            have ht := ou v rfl
            have hn0 : ¬ v.2.2.1 = 0 := by
              rcases ht with z | z <;> rw [z] <;> decide
            have hn1 : ¬ h2.1 77 10 = 0 := by rw [u0]; exact hn0
            rcases w6_cases w with rfl | rfl | rfl | rfl | rfl | rfl | z
            · exact ⟨_, h1, h2, am_run2 _ rfl rfl rfl (r3 _ (c_tw0 p _ _ _ _ h1 v0)), (by rw [v1, ← u1]; exact am_run2 _ rfl rfl rfl (q3 _ (d_tw0 p _ _ _ h2 hn1))), r''⟩
            · exact ⟨_, h1, h2, am_run2 _ rfl rfl rfl (r3 _ (c_tw1 p _ _ _ _ h1 v0)), (by rw [v2, ← u2]; exact am_run2 _ rfl rfl rfl (q3 _ (d_tw1 p _ _ _ h2 hn1))), r''⟩
            · exact ⟨_, h1, h2, am_run2 _ rfl rfl rfl (r3 _ (c_tw2 p _ _ _ _ h1 v0 _ v3)), am_run2 _ rfl rfl rfl (q3 _ (d_tw2 p _ _ _ h2 _ u0 hn0)), r''⟩
            · exact ⟨_, h1, h2, am_run2 _ rfl rfl rfl (r3 _ (c_tw3 p _ _ _ _ h1 v0)), (by rw [v4, ← u3]; exact am_run2 _ rfl rfl rfl (q3 _ (d_tw3 p _ _ _ h2 hn1))), r''⟩
            · exact ⟨_, h1, h2, am_run2 _ rfl rfl rfl (r3 _ (c_tw4 p _ _ _ _ h1 v0)), (by rw [v5, ← u4]; exact am_run2 _ rfl rfl rfl (q3 _ (d_tw4 p _ _ _ h2 hn1))), r''⟩
            · exact ⟨_, h1, h2, am_run2 _ rfl rfl rfl (r3 _ (c_tw5 p _ _ _ _ h1 v0)), (by rw [v6, ← u5]; exact am_run2 _ rfl rfl rfl (q3 _ (d_tw5 p _ _ _ h2 hn1))), r''⟩
            · exact absurd z ho
