/-! Pairing.drop -/
def pm_d (M : pm_M) (s : Nat) : pm_M := fun t => if t = s then none else M t
theorem pm_d_ok {n m : Nat} {M : pm_M} (h : pm_ok n m M) (s : Nat) : pm_ok n m (pm_d M s) := by
  refine ⟨fun t k e => ?_, fun a b k e1 e2 => ?_⟩
  · unfold pm_d at e
    split at e
    · simp at e
    · exact h.1 t k e
  · unfold pm_d at e1 e2
    split at e1
    · simp at e1
    · split at e2
      · simp at e2
      · exact h.2 a b k e1 e2
theorem pm_d_t {n m : Nat} {M : pm_M} (h : pm_ok n m M) {s k : Nat} (e : M s = some k) (j : Nat) : tkn (pm_d M s) j ↔ (tkn M j ∧ j ≠ k) := by
  constructor
  · rintro ⟨t, ht, et⟩
    unfold pm_d at et
    split at et
    · simp at et
    · rename_i hts
      refine ⟨⟨t, ht, et⟩, fun ej => ?_⟩
      rw [ej] at et
      exact hts (h.2 t s k et e)
  · rintro ⟨⟨t, ht, et⟩, hj⟩
    refine ⟨t, ht, ?_⟩
    unfold pm_d
    rw [if_neg (fun z => hj (by rw [z, e] at et; exact (Option.some.inj et).symm))]
    exact et
theorem pm_d_c (M : pm_M) (s k a : Nat) (e : M s = some k) : pm_c M a = pm_c (pm_d M s) a + (if s < a then 1 else 0) := by
  induction a with
  | zero => simp [pm_c]
  | succ a ih =>
    rw [pm_c, pm_c, ih]
    by_cases ea : a = s
    · have h1 : pm_d M s a = none := by unfold pm_d; rw [if_pos ea]
      rw [h1, ea, e]
      simp
    · have h1 : pm_d M s a = M a := by unfold pm_d; rw [if_neg ea]
      rw [h1]
      by_cases e2 : s < a
      · rw [if_pos e2, if_pos (show s < a + 1 by omega)]
        omega
      · rw [if_neg e2, if_neg (show ¬ s < a + 1 by omega)]
        omega
theorem m_X4_drop (p : Nat) (hp : p < 2) (n m : Nat) (hn : n ≤ 8) (hm : m ≤ 8) (M : pm_M) (hM : pm_ok n m M) (h : am_H) (hg : pg_has h p M) (s k : Nat) (e : M s = some k) (c : Nat) (hc : h.1 (3 * p + 57) 2 = nI (c + 1)) : ∃ h2, fX4_drop [.ref (3 * p + 57), .int (nI s)] h = some (none, h2) ∧ pg_has h2 p (pm_d M s) ∧ h2.1 (3 * p + 57) 2 = nI c ∧ pf_fr h h2 p := by
  obtain ⟨ls, lk⟩ := hM.1 s k e
  obtain ⟨d0, d1, d2, d3, d4⟩ := pg_q hp
  obtain ⟨w1, w2⟩ := m_X4_holds p hp s (by omega) h
  have e9 : h.1 (3 * p + 58) s = nI k := by rw [hg.1 s (by omega), e]; rfl
  have v1 := w2 (by rw [e9]; exact mv_9 (by omega))
  have hx : ∀ z : am_S, am_ix (nI s) 8 z = z := fun z => am_ix_c (show s < 8 by omega) (by omega)
  have hcl := am_clp (show s < 8 by omega) (by omega)
  have hy : ∀ z : am_S, am_ix (nI k) 8 z = z := fun z => am_ix_c (show k < 8 by omega) (by omega)
  have hcm := am_clp (show k < 8 by omega) (by omega)
  have n1 : nI (c + 1) - 1 = nI c := by
    rw [← nI_1p]
    generalize nI c = x
    grind
  refine ⟨am_ui (am_ui (am_ui h (3 * p + 59) k 0) (3 * p + 58) s (-9)) (3 * p + 57) 2 (nI c), ?_, ⟨fun t ht => ?_, fun j hj => ⟨fun t => ?_, fun t => ?_⟩⟩, ?_, rfl, fun a ha => ?_⟩
  · refine am_run1 60 [some (.ref (3 * p + 57)), some (.int (nI s))] rfl rfl rfl ?_
    simp only [am_go_s, am_bd_none, am_bd_rt, am_bd_nx, am_bd_ite, am_1i_c, am_2i_c, am_1l_c, am_2l_c, am_li_c, am_1r_c, am_ri_c, am_rii_c, am_ril_c, am_vi_c, am_vl_c, am_vr_c, am_ob_c, am_ob_n, am_ob_ite, am_kk_i, am_kk_r, am_kk_l, am_kk_n, am_ui_1, am_ui_2, am_ul_1, am_ul_2, am_b0, am_tl_s, am_tl_n, am_jp, am_ic, am_ct_n, am_ct_c, am_10, am_01, am_b1, am_nn, or_true, or_false, true_or, false_or, Int32.reduceLT, Int32.reduceLE, Int32.reduceAdd, Int32.reduceSub, not_true_eq_false, not_false_eq_true, Nat.reduceAdd, Int.reduceAdd, Int.reduceNeg, Int.reduceLE, Int.reduceSub, Int.reduceToNat, if_true, if_false, ite_true, ite_false, Bool.or_false, Bool.false_or, Bool.or_true, Bool.true_or, Nat.reduceBEq, Nat.reduceEqDiff, reduceIte, eq_self, false_and, and_false, true_and, and_true, Bool.false_eq_true, Bool.true_eq_false, reduceCtorEq, dX4_drop_0, am_dx_aload_n_0, am_ld_0, dX4_drop_1, am_dx_iload_n_1, am_ld_1, dX4_drop_2, am_dx_invokevirtual, dX4_drop_5, am_dx_ifCond_ne, dX4_drop_8, am_dx_return, dX4_drop_9, dX4_drop_10, am_dx_getfield, dX4_drop_13, dX4_drop_14, dX4_drop_17, dX4_drop_18, am_dx_iaload, dX4_drop_19, am_dx_iconst_0, dX4_drop_20, am_dx_bastore, dX4_drop_21, dX4_drop_22, dX4_drop_25, dX4_drop_26, am_dx_bipush_m9, dX4_drop_28, am_dx_iastore, dX4_drop_29, dX4_drop_30, am_dx_dup_i, am_dx_dup_r, dX4_drop_31, dX4_drop_34, am_dx_iconst_1, dX4_drop_35, am_dx_isub, dX4_drop_36, am_dx_putfield, dX4_drop_39, lX4_drop_27, am_cV_1, am_l0, am_l1, am_l2, am_l3, am_l4, lX4_drop_15, am_fr_4_1, lX4_drop_9, am_fr_4_0, lX4_drop_19, am_fr_4_2, am_fw_4_2, d0, d1, d2, d3, d4, v1, e9, hx, hcl, hy, hcm, hc, n1, am_ne_0_1, am_ne_0_2, am_ne_0_3, am_ne_1_0, am_ne_1_2, am_ne_1_3, am_ne_2_0, am_ne_2_1, am_ne_2_3, am_ne_3_0, am_ne_3_1, am_ne_3_2]
  · unfold pm_d
    by_cases et : t = s
    · rw [if_pos et, et]
      unfold mv
      ((try simp only [am_ui_1, am_ui_2, true_and, and_true, and_self, if_true, reduceIte]); (repeat first | rw [if_neg (by omega)] | rw [if_pos (by omega)]); try rfl)
    · rw [if_neg et, ← hg.1 t ht]
      ((try simp only [am_ui_1, am_ui_2, true_and, and_true, and_self, if_true, reduceIte]); (repeat first | rw [if_neg (by omega)] | rw [if_pos (by omega)]); try rfl)
  · rw [pm_d_t hM e] at t
    rw [← (hg.2 j hj).1 t.1]
    have := t.2
    ((try simp only [am_ui_1, am_ui_2, true_and, and_true, and_self, if_true, reduceIte]); (repeat first | rw [if_neg (by omega)] | rw [if_pos (by omega)]); try rfl)
  · by_cases ej : j = k
    · rw [ej]
      ((try simp only [am_ui_1, am_ui_2, true_and, and_true, and_self, if_true, reduceIte]); (repeat first | rw [if_neg (by omega)] | rw [if_pos (by omega)]); try rfl)
    · rw [pm_d_t hM e] at t
      rw [← (hg.2 j hj).2 (fun z => t ⟨z, ej⟩)]
      ((try simp only [am_ui_1, am_ui_2, true_and, and_true, and_self, if_true, reduceIte]); (repeat first | rw [if_neg (by omega)] | rw [if_pos (by omega)]); try rfl)
  · ((try simp only [am_ui_1, am_ui_2, true_and, and_true, and_self, if_true, reduceIte]); (repeat first | rw [if_neg (by omega)] | rw [if_pos (by omega)]); try rfl)
  · funext b
    ((try simp only [am_ui_1, am_ui_2, true_and, and_true, and_self, if_true, reduceIte]); (repeat first | rw [if_neg (by omega)] | rw [if_pos (by omega)]); try rfl)
