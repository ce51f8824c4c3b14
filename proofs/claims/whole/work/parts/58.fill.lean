/-! fill: pairs by their votes -/
noncomputable def pm_g (T : Nat → Int32) (M : pm_M) : pm_M := match bst T M 64 with
  | none => M
  | some y => pm_s M y
noncomputable def pm_i (T : Nat → Int32) : Nat → pm_M
  | 0 => fun _ => none
  | i + 1 => pm_g T (pm_i T i)
/-- how many stars below a have a spot -/
def pm_c (M : pm_M) : Nat → Nat
  | 0 => 0
  | a + 1 => pm_c M a + (if (M a).isSome then 1 else 0)
theorem pm_c_le (M : pm_M) (a : Nat) : pm_c M a ≤ a := by
  induction a with
  | zero => exact Nat.le_refl _
  | succ a ih =>
    rw [pm_c]
    split <;> omega
theorem pm_c_lt (M : pm_M) (a : Nat) {s : Nat} (hs : s < a) (h : M s = none) : pm_c M a < a := by
  induction a with
  | zero => omega
  | succ a ih =>
    rw [pm_c]
    by_cases e : s = a
    · subst e
      rw [h]
      have := pm_c_le M s
      simp
      omega
    · have := ih (by omega)
      split <;> omega
theorem pm_c_s (M : pm_M) (y a : Nat) (h : M (y / 8) = none) : pm_c (pm_s M y) a = pm_c M a + (if y / 8 < a then 1 else 0) := by
  induction a with
  | zero => simp [pm_c]
  | succ a ih =>
    rw [pm_c, pm_c, ih]
    by_cases e : a = y / 8
    · have : pm_s M y a = some (y % 8) := by unfold pm_s; rw [if_pos e]
      rw [this, e, h]
      simp
    · have : pm_s M y a = M a := by unfold pm_s; rw [if_neg e]
      rw [this]
      by_cases e2 : y / 8 < a
      · rw [if_pos e2, if_pos (show y / 8 < a + 1 by omega)]
        omega
      · rw [if_neg e2, if_neg (show ¬ y / 8 < a + 1 by omega)]
        omega
/-- nothing is left to pair -/
theorem pm_full {T : Nat → Int32} {M : pm_M} (h : pm_c M 8 = 8) : bst T M 64 = none := by
  cases e : bst T M 64 with
  | none => rfl
  | some y =>
    obtain ⟨b1, b2, b3, b4⟩ := bst_in e
    have := pm_c_lt M 8 (s := y / 8) (by omega) b3
    omega
theorem pm_stay {T : Nat → Int32} {i : Nat} (h : bst T (pm_i T i) 64 = none) (d : Nat) : pm_i T (i + d) = pm_i T i := by
  induction d with
  | zero => rfl
  | succ d ih =>
    rw [← Nat.add_assoc, pm_i, ih, pm_g, h]
/-- in the counts, each spot once -/
def pm_ok (n m : Nat) (M : pm_M) : Prop := (∀ s k, M s = some k → s < n ∧ k < m) ∧ ∀ s t k, M s = some k → M t = some k → s = t
theorem pm_ok_s {n m : Nat} (hn : n ≤ 8) (hm : m ≤ 8) {T : Nat → Int32} (hz : vz n m T) {M : pm_M} {y : Nat} (h : pm_ok n m M) (e : bst T M 64 = some y) : pm_ok n m (pm_s M y) := by
  obtain ⟨b1, b2, b3, b4⟩ := bst_in e
  have hy : y / 8 < n ∧ y % 8 < m := Classical.byContradiction (fun c => by
    have := hz (y / 8) (y % 8) (by omega) (by omega) c
    rw [show 8 * (y / 8) + y % 8 = y by omega] at this
    rw [this] at b2
    exact absurd b2 (by decide))
  refine ⟨fun s k hk => ?_, fun s t k h1 h2 => ?_⟩
  · unfold pm_s at hk
    split at hk
    · cases hk
      exact ⟨by omega, hy.2⟩
    · exact h.1 s k hk
  · unfold pm_s at h1 h2
    split at h1
    · split at h2
      · omega
      · cases h1
        exact absurd ⟨t, by have := (h.1 t _ h2).1; omega, h2⟩ b4
    · split at h2
      · cases h2
        exact absurd ⟨s, by have := (h.1 s _ h1).1; omega, h1⟩ b4
      · exact h.2 s t k h1 h2
theorem pm_ok_i {n m : Nat} (hn : n ≤ 8) (hm : m ≤ 8) {T : Nat → Int32} (hz : vz n m T) (i : Nat) : pm_ok n m (pm_i T i) := by
  induction i with
  | zero => exact ⟨fun s k h => by simp [pm_i] at h, fun s t k h => by simp [pm_i] at h⟩
  | succ i ih =>
    rw [pm_i, pm_g]
    cases e : bst T (pm_i T i) 64 with
    | none => exact ih
    | some y => exact pm_ok_s hn hm hz ih e
def pf_fr (h k : am_H) (p : Nat) : Prop := k.2 = h.2 ∧ ∀ a, ¬ (3 * p + 57 ≤ a ∧ a ≤ 3 * p + 59) → k.1 a = h.1 a
theorem m_X4_fill (p : Nat) (hp : p < 2) (n m : Nat) (hn : n ≤ 8) (hm : m ≤ 8) (T : Nat → Int32) (hz : vz n m T) (h : am_H) (hT : ∀ x, x < 64 → h.1 56 x = T x) : ∃ k, fX4_fill [.ref (3 * p + 57), .ref 35, .int (nI n), .int (nI m)] h = some (none, k) ∧ pg_has k p (pm_i T 8) ∧ k.1 (3 * p + 57) 2 = nI (pm_c (pm_i T 8) 8) ∧ bst T (pm_i T 8) 64 = none ∧ pf_fr h k p := by
  obtain ⟨d0, d1, d2, d3, d4⟩ := pg_q hp
  have r0 : am_Re GX4_fill cX4_fill (0, [some (.ref (3 * p + 57)), some (.ref 35), some (.int (nI n)), some (.int (nI m)), none], [], h) (3, [some (.ref (3 * p + 57)), some (.ref 35), some (.int (nI n)), some (.int (nI m)), some (.int (nI 0))], [], h) := by
    refine am_Re_go (sp := [3]) 40 ?_
    simp only [am_go_s, am_bd_none, am_bd_rt, am_bd_nx, am_bd_ite, am_1i_c, am_2i_c, am_1l_c, am_2l_c, am_li_c, am_1r_c, am_ri_c, am_rii_c, am_ril_c, am_vi_c, am_vl_c, am_vr_c, am_ob_c, am_ob_n, am_ob_ite, am_kk_i, am_kk_r, am_kk_l, am_kk_n, am_ui_1, am_ui_2, am_ul_1, am_ul_2, am_b0, am_tl_s, am_tl_n, am_jp, am_ic, am_ct_n, am_ct_c, am_10, am_01, am_b1, am_nn, or_true, or_false, true_or, false_or, Int32.reduceLT, Int32.reduceLE, Int32.reduceAdd, Int32.reduceSub, not_true_eq_false, not_false_eq_true, Nat.reduceAdd, Int.reduceAdd, Int.reduceNeg, Int.reduceLE, Int.reduceSub, Int.reduceToNat, if_true, if_false, ite_true, ite_false, Bool.or_false, Bool.false_or, Bool.or_true, Bool.true_or, Nat.reduceBEq, Nat.reduceEqDiff, reduceIte, eq_self, false_and, and_false, true_and, and_true, Bool.false_eq_true, Bool.true_eq_false, reduceCtorEq, dX4_fill_0, am_dx_iconst_0, dX4_fill_1, am_dx_istore_4, am_set_4, am_ld_3, am_set_3, am_st1_4, am_lnl_4, dX4_fill_3, am_dx_iload_4, am_ld_4, dX4_fill_5, am_dx_bipush_8, dX4_fill_7, am_dx_if_icmp_ge, dX4_fill_10, am_dx_aload_n_0, am_ld_0, dX4_fill_11, am_dx_getfield, dX4_fill_14, dX4_fill_16, am_dx_bipush_m9, dX4_fill_18, am_dx_iastore, dX4_fill_19, dX4_fill_20, dX4_fill_23, dX4_fill_25, dX4_fill_26, am_dx_bastore, dX4_fill_27, am_dx_iinc_4_1, dX4_fill_30, am_dx_goto, dX4_fill_33, dX4_fill_34, dX4_fill_35, am_dx_putfield, dX4_fill_38, dX4_fill_39, dX4_fill_41, dX4_fill_43, dX4_fill_45, dX4_fill_48, dX4_fill_49, am_dx_aload_n_1, am_ld_1, dX4_fill_50, am_dx_iload_n_2, am_ld_2, dX4_fill_51, am_dx_iload_n_3, dX4_fill_52, am_dx_invokevirtual, dX4_fill_55, am_dx_ifCond_ne, dX4_fill_58, dX4_fill_61, dX4_fill_64, dX4_fill_67, am_dx_return, lX4_fill_9, am_fr_4_0, lX4_fill_15, am_fr_4_1, lX4_fill_19, am_fr_4_2, am_fw_4_2, lX4_fill_23, am_cV_3, am_l0, am_l1, am_l2, am_l3, am_l4, nI_0]
  obtain ⟨h1, ⟨i1, i2⟩, r1⟩ := am_loopS (G := GX4_fill) (cc := cX4_fill) (fun x h => (3, [some (.ref (3 * p + 57)), some (.ref 35), some (.int (nI n)), some (.int (nI m)), some (.int (nI x))], [], h)) (fun x k => (∀ y, y < x → k.1 (3 * p + 58) y = -9 ∧ k.1 (3 * p + 59) y = 0) ∧ pf_fr h k p) 0 8 (by omega) (fun x _ hx h5 hI => by
    have q6 : ¬ 8 ≤ nI x := nIlt' (a := x) (b := 8) (by omega) hx
    have hxx : ∀ z : am_S, am_ix (nI x) 8 z = z := fun z => am_ix_c hx (by omega)
    have hcl := am_clp hx (by omega)
    refine ⟨am_ui (am_ui h5 (3 * p + 58) x (-9)) (3 * p + 59) x 0, ⟨fun y hy => ?_, hI.2.1, fun a ha => ?_⟩, am_Re_go (sp := [3]) 40 (by simp only [am_go_s, am_bd_none, am_bd_rt, am_bd_nx, am_bd_ite, am_1i_c, am_2i_c, am_1l_c, am_2l_c, am_li_c, am_1r_c, am_ri_c, am_rii_c, am_ril_c, am_vi_c, am_vl_c, am_vr_c, am_ob_c, am_ob_n, am_ob_ite, am_kk_i, am_kk_r, am_kk_l, am_kk_n, am_ui_1, am_ui_2, am_ul_1, am_ul_2, am_b0, am_tl_s, am_tl_n, am_jp, am_ic, am_ct_n, am_ct_c, am_10, am_01, am_b1, am_nn, or_true, or_false, true_or, false_or, Int32.reduceLT, Int32.reduceLE, Int32.reduceAdd, Int32.reduceSub, not_true_eq_false, not_false_eq_true, Nat.reduceAdd, Int.reduceAdd, Int.reduceNeg, Int.reduceLE, Int.reduceSub, Int.reduceToNat, if_true, if_false, ite_true, ite_false, Bool.or_false, Bool.false_or, Bool.or_true, Bool.true_or, Nat.reduceBEq, Nat.reduceEqDiff, reduceIte, eq_self, false_and, and_false, true_and, and_true, Bool.false_eq_true, Bool.true_eq_false, reduceCtorEq, dX4_fill_0, am_dx_iconst_0, dX4_fill_1, am_dx_istore_4, am_set_4, am_ld_3, am_set_3, am_st1_4, am_lnl_4, dX4_fill_3, am_dx_iload_4, am_ld_4, dX4_fill_5, am_dx_bipush_8, dX4_fill_7, am_dx_if_icmp_ge, dX4_fill_10, am_dx_aload_n_0, am_ld_0, dX4_fill_11, am_dx_getfield, dX4_fill_14, dX4_fill_16, am_dx_bipush_m9, dX4_fill_18, am_dx_iastore, dX4_fill_19, dX4_fill_20, dX4_fill_23, dX4_fill_25, dX4_fill_26, am_dx_bastore, dX4_fill_27, am_dx_iinc_4_1, dX4_fill_30, am_dx_goto, dX4_fill_33, dX4_fill_34, dX4_fill_35, am_dx_putfield, dX4_fill_38, dX4_fill_39, dX4_fill_41, dX4_fill_43, dX4_fill_45, dX4_fill_48, dX4_fill_49, am_dx_aload_n_1, am_ld_1, dX4_fill_50, am_dx_iload_n_2, am_ld_2, dX4_fill_51, am_dx_iload_n_3, dX4_fill_52, am_dx_invokevirtual, dX4_fill_55, am_dx_ifCond_ne, dX4_fill_58, dX4_fill_61, dX4_fill_64, dX4_fill_67, am_dx_return, lX4_fill_9, am_fr_4_0, lX4_fill_15, am_fr_4_1, lX4_fill_19, am_fr_4_2, am_fw_4_2, lX4_fill_23, am_cV_3, am_l0, am_l1, am_l2, am_l3, am_l4, q6, hxx, hcl, d0, d1, d2, d3, d4, nI_1p])⟩
    · by_cases e : y = x
      · subst e
        exact ⟨by ((try simp only [am_ui_1, am_ui_2, true_and, and_true, and_self, if_true, reduceIte]); (repeat first | rw [if_neg (by omega)] | rw [if_pos (by omega)]); try rfl), by ((try simp only [am_ui_1, am_ui_2, true_and, and_true, and_self, if_true, reduceIte]); (repeat first | rw [if_neg (by omega)] | rw [if_pos (by omega)]); try rfl)⟩
      · obtain ⟨g1, g2⟩ := hI.1 y (by omega)
        exact ⟨by rw [← g1]; ((try simp only [am_ui_1, am_ui_2, true_and, and_true, and_self, if_true, reduceIte]); (repeat first | rw [if_neg (by omega)] | rw [if_pos (by omega)]); try rfl), by rw [← g2]; ((try simp only [am_ui_1, am_ui_2, true_and, and_true, and_self, if_true, reduceIte]); (repeat first | rw [if_neg (by omega)] | rw [if_pos (by omega)]); try rfl)⟩
    · rw [← hI.2.2 a ha]
      funext e
      ((try simp only [am_ui_1, am_ui_2, true_and, and_true, and_self, if_true, reduceIte]); (repeat first | rw [if_neg (by omega)] | rw [if_pos (by omega)]); try rfl)) h ⟨fun y hy => by omega, rfl, fun _ _ => rfl⟩
  have r2 : am_Re GX4_fill cX4_fill (3, [some (.ref (3 * p + 57)), some (.ref 35), some (.int (nI n)), some (.int (nI m)), some (.int (nI 8))], [], h1) (41, [some (.ref (3 * p + 57)), some (.ref 35), some (.int (nI n)), some (.int (nI m)), some (.int (nI 0))], [], am_ui h1 (3 * p + 57) 2 0) := by
    have q6 : 8 ≤ nI 8 := nIle' (a := 8) (b := 8) (by omega) (by omega)
    refine am_Re_go (sp := [41]) 40 ?_
    simp only [am_go_s, am_bd_none, am_bd_rt, am_bd_nx, am_bd_ite, am_1i_c, am_2i_c, am_1l_c, am_2l_c, am_li_c, am_1r_c, am_ri_c, am_rii_c, am_ril_c, am_vi_c, am_vl_c, am_vr_c, am_ob_c, am_ob_n, am_ob_ite, am_kk_i, am_kk_r, am_kk_l, am_kk_n, am_ui_1, am_ui_2, am_ul_1, am_ul_2, am_b0, am_tl_s, am_tl_n, am_jp, am_ic, am_ct_n, am_ct_c, am_10, am_01, am_b1, am_nn, or_true, or_false, true_or, false_or, Int32.reduceLT, Int32.reduceLE, Int32.reduceAdd, Int32.reduceSub, not_true_eq_false, not_false_eq_true, Nat.reduceAdd, Int.reduceAdd, Int.reduceNeg, Int.reduceLE, Int.reduceSub, Int.reduceToNat, if_true, if_false, ite_true, ite_false, Bool.or_false, Bool.false_or, Bool.or_true, Bool.true_or, Nat.reduceBEq, Nat.reduceEqDiff, reduceIte, eq_self, false_and, and_false, true_and, and_true, Bool.false_eq_true, Bool.true_eq_false, reduceCtorEq, dX4_fill_0, am_dx_iconst_0, dX4_fill_1, am_dx_istore_4, am_set_4, am_ld_3, am_set_3, am_st1_4, am_lnl_4, dX4_fill_3, am_dx_iload_4, am_ld_4, dX4_fill_5, am_dx_bipush_8, dX4_fill_7, am_dx_if_icmp_ge, dX4_fill_10, am_dx_aload_n_0, am_ld_0, dX4_fill_11, am_dx_getfield, dX4_fill_14, dX4_fill_16, am_dx_bipush_m9, dX4_fill_18, am_dx_iastore, dX4_fill_19, dX4_fill_20, dX4_fill_23, dX4_fill_25, dX4_fill_26, am_dx_bastore, dX4_fill_27, am_dx_iinc_4_1, dX4_fill_30, am_dx_goto, dX4_fill_33, dX4_fill_34, dX4_fill_35, am_dx_putfield, dX4_fill_38, dX4_fill_39, dX4_fill_41, dX4_fill_43, dX4_fill_45, dX4_fill_48, dX4_fill_49, am_dx_aload_n_1, am_ld_1, dX4_fill_50, am_dx_iload_n_2, am_ld_2, dX4_fill_51, am_dx_iload_n_3, dX4_fill_52, am_dx_invokevirtual, dX4_fill_55, am_dx_ifCond_ne, dX4_fill_58, dX4_fill_61, dX4_fill_64, dX4_fill_67, am_dx_return, lX4_fill_9, am_fr_4_0, lX4_fill_15, am_fr_4_1, lX4_fill_19, am_fr_4_2, am_fw_4_2, lX4_fill_23, am_cV_3, am_l0, am_l1, am_l2, am_l3, am_l4, q6, d0, nI_0]
  have g0 : pg_has (am_ui h1 (3 * p + 57) 2 0) p (pm_i T 0) := by
    refine ⟨fun s hs => ?_, fun k hk => ⟨fun ⟨s, _, e⟩ => by simp [pm_i] at e, fun _ => ?_⟩⟩
    · rw [show mv (pm_i T 0 s) = -9 from rfl, ← (i1 s hs).1]
      ((try simp only [am_ui_1, am_ui_2, true_and, and_true, and_self, if_true, reduceIte]); (repeat first | rw [if_neg (by omega)] | rw [if_pos (by omega)]); try rfl)
    · rw [← (i1 k hk).2]
      ((try simp only [am_ui_1, am_ui_2, true_and, and_true, and_self, if_true, reduceIte]); (repeat first | rw [if_neg (by omega)] | rw [if_pos (by omega)]); try rfl)
  have c0 : (am_ui h1 (3 * p + 57) 2 0).1 (3 * p + 57) 2 = nI (pm_c (pm_i T 0) 8) := by
    rw [show pm_c (pm_i T 0) 8 = 0 from rfl]
    ((try simp only [am_ui_1, am_ui_2, true_and, and_true, and_self, if_true, reduceIte]); (repeat first | rw [if_neg (by omega)] | rw [if_pos (by omega)]); try rfl)
  have f0 : pf_fr h (am_ui h1 (3 * p + 57) 2 0) p := by
    refine ⟨i2.1, fun a ha => ?_⟩
    rw [← i2.2 a ha]
    funext e
    ((try simp only [am_ui_1, am_ui_2, true_and, and_true, and_self, if_true, reduceIte]); (repeat first | rw [if_neg (by omega)] | rw [if_pos (by omega)]); try rfl)
  generalize am_ui h1 (3 * p + 57) 2 0 = h2 at r2 g0 c0 f0
  have key : ∀ d i, i + d = 8 → pm_c (pm_i T i) 8 = i → ∀ h2 : am_H, pg_has h2 p (pm_i T i) → h2.1 (3 * p + 57) 2 = nI (pm_c (pm_i T i) 8) → pf_fr h h2 p → ∃ k, am_Big GX4_fill cX4_fill (41, [some (.ref (3 * p + 57)), some (.ref 35), some (.int (nI n)), some (.int (nI m)), some (.int (nI i))], [], h2) (none, k) ∧ pg_has k p (pm_i T 8) ∧ k.1 (3 * p + 57) 2 = nI (pm_c (pm_i T 8) 8) ∧ bst T (pm_i T 8) 64 = none ∧ pf_fr h k p := by
    intro d
    induction d with
    | zero =>
      intro i hi hc h2 g c f
      have : i = 8 := by omega
      subst this
      refine ⟨h2, ?_, g, c, pm_full hc, f⟩
      have q6 : 8 ≤ nI 8 := nIle' (a := 8) (b := 8) (by omega) (by omega)
      refine am_Big_end (sp := []) 40 ?_
      simp only [am_go_s, am_bd_none, am_bd_rt, am_bd_nx, am_bd_ite, am_1i_c, am_2i_c, am_1l_c, am_2l_c, am_li_c, am_1r_c, am_ri_c, am_rii_c, am_ril_c, am_vi_c, am_vl_c, am_vr_c, am_ob_c, am_ob_n, am_ob_ite, am_kk_i, am_kk_r, am_kk_l, am_kk_n, am_ui_1, am_ui_2, am_ul_1, am_ul_2, am_b0, am_tl_s, am_tl_n, am_jp, am_ic, am_ct_n, am_ct_c, am_10, am_01, am_b1, am_nn, or_true, or_false, true_or, false_or, Int32.reduceLT, Int32.reduceLE, Int32.reduceAdd, Int32.reduceSub, not_true_eq_false, not_false_eq_true, Nat.reduceAdd, Int.reduceAdd, Int.reduceNeg, Int.reduceLE, Int.reduceSub, Int.reduceToNat, if_true, if_false, ite_true, ite_false, Bool.or_false, Bool.false_or, Bool.or_true, Bool.true_or, Nat.reduceBEq, Nat.reduceEqDiff, reduceIte, eq_self, false_and, and_false, true_and, and_true, Bool.false_eq_true, Bool.true_eq_false, reduceCtorEq, dX4_fill_0, am_dx_iconst_0, dX4_fill_1, am_dx_istore_4, am_set_4, am_ld_3, am_set_3, am_st1_4, am_lnl_4, dX4_fill_3, am_dx_iload_4, am_ld_4, dX4_fill_5, am_dx_bipush_8, dX4_fill_7, am_dx_if_icmp_ge, dX4_fill_10, am_dx_aload_n_0, am_ld_0, dX4_fill_11, am_dx_getfield, dX4_fill_14, dX4_fill_16, am_dx_bipush_m9, dX4_fill_18, am_dx_iastore, dX4_fill_19, dX4_fill_20, dX4_fill_23, dX4_fill_25, dX4_fill_26, am_dx_bastore, dX4_fill_27, am_dx_iinc_4_1, dX4_fill_30, am_dx_goto, dX4_fill_33, dX4_fill_34, dX4_fill_35, am_dx_putfield, dX4_fill_38, dX4_fill_39, dX4_fill_41, dX4_fill_43, dX4_fill_45, dX4_fill_48, dX4_fill_49, am_dx_aload_n_1, am_ld_1, dX4_fill_50, am_dx_iload_n_2, am_ld_2, dX4_fill_51, am_dx_iload_n_3, dX4_fill_52, am_dx_invokevirtual, dX4_fill_55, am_dx_ifCond_ne, dX4_fill_58, dX4_fill_61, dX4_fill_64, dX4_fill_67, am_dx_return, lX4_fill_9, am_fr_4_0, lX4_fill_15, am_fr_4_1, lX4_fill_19, am_fr_4_2, am_fw_4_2, lX4_fill_23, am_cV_3, am_l0, am_l1, am_l2, am_l3, am_l4, q6]
    | succ d ih =>
      intro i hi hc h2 g c f
      have q6 : ¬ 8 ≤ nI i := nIlt' (a := i) (b := 8) (by omega) (by omega)
      have hT2 : ∀ x, x < 64 → h2.1 56 x = T x := fun x hx => by rw [f.2 56 (by omega)]; exact hT x hx
      have hM := (pm_ok_i hn hm hz i).1
      have hM8 : ∀ s k, pm_i T i s = some k → k < 8 := fun s k e => by have := (hM s k e).2; omega
      cases e : bst T (pm_i T i) 64 with
      | none =>
        have m0 := m_add0 p hp n m hn hm T hz _ hM8 h2 hT2 g e
        have es := pm_stay e (d + 1)
        rw [hi] at es
        rw [es]
        refine ⟨h2, ?_, g, c, e, f⟩
        refine am_Big_end (sp := []) 40 ?_
        simp only [am_go_s, am_bd_none, am_bd_rt, am_bd_nx, am_bd_ite, am_1i_c, am_2i_c, am_1l_c, am_2l_c, am_li_c, am_1r_c, am_ri_c, am_rii_c, am_ril_c, am_vi_c, am_vl_c, am_vr_c, am_ob_c, am_ob_n, am_ob_ite, am_kk_i, am_kk_r, am_kk_l, am_kk_n, am_ui_1, am_ui_2, am_ul_1, am_ul_2, am_b0, am_tl_s, am_tl_n, am_jp, am_ic, am_ct_n, am_ct_c, am_10, am_01, am_b1, am_nn, or_true, or_false, true_or, false_or, Int32.reduceLT, Int32.reduceLE, Int32.reduceAdd, Int32.reduceSub, not_true_eq_false, not_false_eq_true, Nat.reduceAdd, Int.reduceAdd, Int.reduceNeg, Int.reduceLE, Int.reduceSub, Int.reduceToNat, if_true, if_false, ite_true, ite_false, Bool.or_false, Bool.false_or, Bool.or_true, Bool.true_or, Nat.reduceBEq, Nat.reduceEqDiff, reduceIte, eq_self, false_and, and_false, true_and, and_true, Bool.false_eq_true, Bool.true_eq_false, reduceCtorEq, dX4_fill_0, am_dx_iconst_0, dX4_fill_1, am_dx_istore_4, am_set_4, am_ld_3, am_set_3, am_st1_4, am_lnl_4, dX4_fill_3, am_dx_iload_4, am_ld_4, dX4_fill_5, am_dx_bipush_8, dX4_fill_7, am_dx_if_icmp_ge, dX4_fill_10, am_dx_aload_n_0, am_ld_0, dX4_fill_11, am_dx_getfield, dX4_fill_14, dX4_fill_16, am_dx_bipush_m9, dX4_fill_18, am_dx_iastore, dX4_fill_19, dX4_fill_20, dX4_fill_23, dX4_fill_25, dX4_fill_26, am_dx_bastore, dX4_fill_27, am_dx_iinc_4_1, dX4_fill_30, am_dx_goto, dX4_fill_33, dX4_fill_34, dX4_fill_35, am_dx_putfield, dX4_fill_38, dX4_fill_39, dX4_fill_41, dX4_fill_43, dX4_fill_45, dX4_fill_48, dX4_fill_49, am_dx_aload_n_1, am_ld_1, dX4_fill_50, am_dx_iload_n_2, am_ld_2, dX4_fill_51, am_dx_iload_n_3, dX4_fill_52, am_dx_invokevirtual, dX4_fill_55, am_dx_ifCond_ne, dX4_fill_58, dX4_fill_61, dX4_fill_64, dX4_fill_67, am_dx_return, lX4_fill_9, am_fr_4_0, lX4_fill_15, am_fr_4_1, lX4_fill_19, am_fr_4_2, am_fw_4_2, lX4_fill_23, am_cV_3, am_l0, am_l1, am_l2, am_l3, am_l4, q6, m0, d0]
      | some y =>
        obtain ⟨k, k1, k2, k3, k4, k5⟩ := m_add1 p hp n m hn hm T hz _ hM8 h2 hT2 g y e _ c
        have ei : pm_i T (i + 1) = pm_s (pm_i T i) y := by rw [pm_i, pm_g, e]
        obtain ⟨b1, b2, b3, b4⟩ := bst_in e
        have ec : pm_c (pm_i T (i + 1)) 8 = i + 1 := by rw [ei, pm_c_s _ _ _ b3, hc, if_pos (by omega)]
        obtain ⟨k', t1, t2⟩ := ih (i + 1) (by omega) ec k (by rw [ei]; exact k2) (by rw [k3, ec, hc]) ⟨k4.trans f.1, fun a ha => (k5 a ha).trans (f.2 a ha)⟩
        refine ⟨k', ?_, t2⟩
        refine am_Re_go (sp := [41]) 40 ?_ _ t1
        simp only [am_go_s, am_bd_none, am_bd_rt, am_bd_nx, am_bd_ite, am_1i_c, am_2i_c, am_1l_c, am_2l_c, am_li_c, am_1r_c, am_ri_c, am_rii_c, am_ril_c, am_vi_c, am_vl_c, am_vr_c, am_ob_c, am_ob_n, am_ob_ite, am_kk_i, am_kk_r, am_kk_l, am_kk_n, am_ui_1, am_ui_2, am_ul_1, am_ul_2, am_b0, am_tl_s, am_tl_n, am_jp, am_ic, am_ct_n, am_ct_c, am_10, am_01, am_b1, am_nn, or_true, or_false, true_or, false_or, Int32.reduceLT, Int32.reduceLE, Int32.reduceAdd, Int32.reduceSub, not_true_eq_false, not_false_eq_true, Nat.reduceAdd, Int.reduceAdd, Int.reduceNeg, Int.reduceLE, Int.reduceSub, Int.reduceToNat, if_true, if_false, ite_true, ite_false, Bool.or_false, Bool.false_or, Bool.or_true, Bool.true_or, Nat.reduceBEq, Nat.reduceEqDiff, reduceIte, eq_self, false_and, and_false, true_and, and_true, Bool.false_eq_true, Bool.true_eq_false, reduceCtorEq, dX4_fill_0, am_dx_iconst_0, dX4_fill_1, am_dx_istore_4, am_set_4, am_ld_3, am_set_3, am_st1_4, am_lnl_4, dX4_fill_3, am_dx_iload_4, am_ld_4, dX4_fill_5, am_dx_bipush_8, dX4_fill_7, am_dx_if_icmp_ge, dX4_fill_10, am_dx_aload_n_0, am_ld_0, dX4_fill_11, am_dx_getfield, dX4_fill_14, dX4_fill_16, am_dx_bipush_m9, dX4_fill_18, am_dx_iastore, dX4_fill_19, dX4_fill_20, dX4_fill_23, dX4_fill_25, dX4_fill_26, am_dx_bastore, dX4_fill_27, am_dx_iinc_4_1, dX4_fill_30, am_dx_goto, dX4_fill_33, dX4_fill_34, dX4_fill_35, am_dx_putfield, dX4_fill_38, dX4_fill_39, dX4_fill_41, dX4_fill_43, dX4_fill_45, dX4_fill_48, dX4_fill_49, am_dx_aload_n_1, am_ld_1, dX4_fill_50, am_dx_iload_n_2, am_ld_2, dX4_fill_51, am_dx_iload_n_3, dX4_fill_52, am_dx_invokevirtual, dX4_fill_55, am_dx_ifCond_ne, dX4_fill_58, dX4_fill_61, dX4_fill_64, dX4_fill_67, am_dx_return, lX4_fill_9, am_fr_4_0, lX4_fill_15, am_fr_4_1, lX4_fill_19, am_fr_4_2, am_fw_4_2, lX4_fill_23, am_cV_3, am_l0, am_l1, am_l2, am_l3, am_l4, q6, k1, d0, nI_1p]
  obtain ⟨k, t1, t2⟩ := key 8 0 rfl rfl h2 g0 c0 f0
  exact ⟨k, am_run2 _ rfl rfl rfl (r0 _ (r1 _ (r2 _ t1))), t2⟩
