/-! blinks: the class's isBlinking -/
def ab3 (x : Int32) : Int32 := if 0 ≤ x then x else -x
def bk (L0 L1 : Nat → Int32) (B : Int32) (M0 M1 : pm_M) (s : Nat) : Bool := match M0 s, M1 s with
  | some k, some l => decide (B ≤ ab3 (L0 k - L1 l))
  | none, none => false
  | _, _ => true
theorem m_X8_isBlinking (M0 M1 : pm_M) (hM0 : ∀ s k, M0 s = some k → k < 8) (hM1 : ∀ s k, M1 s = some k → k < 8) (h : am_H) (g0 : pg_has h 0 M0) (g1 : pg_has h 1 M1) (L0 L1 : Nat → Int32) (B : Int32) (eB : h.1 31 3 = B) (e0 : h.1 8 = L0) (e1 : h.1 12 = L1) (s : Nat) (hs : s < 8) : (bk L0 L1 B M0 M1 s = true → fX8_isBlinking [.ref 0, .int (nI s)] h = some (some (.int 1), h)) ∧ (¬ bk L0 L1 B M0 M1 s = true → fX8_isBlinking [.ref 0, .int (nI s)] h = some (some (.int 0), h)) := by
  obtain ⟨w1, w2⟩ := h_pg (p := 0) (by omega) hM0 g0 hs
  obtain ⟨v1, v2⟩ := h_pg (p := 1) (by omega) hM1 g1 hs
  obtain ⟨t1, t2⟩ := m_X8_isInBoth M0 M1 hM0 hM1 h g0 g1 s hs
  have x0 := ix2.1
  have x1 := ix2.2
  have x3 : ∀ z : am_S, am_ix 3 4 z = z := fun z => am_ix_c (j := 3) (by omega) (by omega)
  have r0 : am_gr 63 0 = 57 := rfl
  have r1 : am_gr 63 1 = 60 := rfl
  have k0 : am_kd 57 = (4, 3) := rfl
  have k1 : am_kd 60 = (4, 3) := rfl
  cases em : M0 s with
  | none =>
    have w : fX4_holds [.ref 57, .int (nI s)] h = some (some (.int 0), h) := w1 em
    have nb : ¬ bi M0 M1 s = true := by unfold bi; rw [em]; simp
    have t := t2 nb
    cases en : M1 s with
    | none =>
      have v : fX4_holds [.ref 60, .int (nI s)] h = some (some (.int 0), h) := v1 en
      have bb : bk L0 L1 B M0 M1 s = false := by unfold bk; rw [em, en]
      refine ⟨fun c => absurd (bb.symm.trans c) (by decide), fun _ => ?_⟩
      refine am_run1 60 [some (.ref 0), some (.int (nI s))] rfl rfl rfl ?_
      simp only [am_go_s, am_bd_none, am_bd_rt, am_bd_nx, am_bd_ite, am_1i_c, am_2i_c, am_1l_c, am_2l_c, am_li_c, am_1r_c, am_ri_c, am_rii_c, am_ril_c, am_vi_c, am_vl_c, am_vr_c, am_ob_c, am_ob_n, am_ob_ite, am_kk_i, am_kk_r, am_kk_l, am_kk_n, am_ui_1, am_ui_2, am_ul_1, am_ul_2, am_b0, am_tl_s, am_tl_n, am_jp, am_ic, am_ct_n, am_ct_c, am_10, am_01, am_b1, am_nn, or_true, or_false, true_or, false_or, Int32.reduceLT, Int32.reduceLE, Int32.reduceAdd, Int32.reduceSub, not_true_eq_false, not_false_eq_true, Nat.reduceAdd, Int.reduceAdd, Int.reduceNeg, Int.reduceLE, Int.reduceSub, Int.reduceToNat, if_true, if_false, ite_true, ite_false, Bool.or_false, Bool.false_or, Bool.or_true, Bool.true_or, Nat.reduceBEq, Nat.reduceEqDiff, reduceIte, eq_self, false_and, and_false, true_and, and_true, Bool.false_eq_true, Bool.true_eq_false, reduceCtorEq, dX8_isBlinking_0, am_dx_aload_n_0, am_ld_0, dX8_isBlinking_1, am_dx_iload_n_1, am_ld_1, dX8_isBlinking_2, am_dx_invokevirtual, dX8_isBlinking_5, am_dx_ifCond_ne, dX8_isBlinking_8, dX8_isBlinking_9, am_dx_getfield, dX8_isBlinking_12, am_dx_iconst_0, dX8_isBlinking_13, am_dx_aaload, dX8_isBlinking_14, dX8_isBlinking_15, dX8_isBlinking_18, dX8_isBlinking_21, dX8_isBlinking_22, dX8_isBlinking_25, am_dx_iconst_1, dX8_isBlinking_26, dX8_isBlinking_27, dX8_isBlinking_28, dX8_isBlinking_31, am_dx_ifCond_eq, dX8_isBlinking_34, dX8_isBlinking_35, am_dx_goto, dX8_isBlinking_38, dX8_isBlinking_39, am_dx_ireturn, dX8_isBlinking_40, dX8_isBlinking_41, dX8_isBlinking_42, dX8_isBlinking_43, dX8_isBlinking_46, dX8_isBlinking_47, dX8_isBlinking_48, dX8_isBlinking_49, dX8_isBlinking_52, am_dx_isub, dX8_isBlinking_53, am_dx_invokestatic, dX8_isBlinking_56, dX8_isBlinking_57, dX8_isBlinking_60, am_dx_iconst_3, dX8_isBlinking_61, am_dx_iaload, dX8_isBlinking_62, am_dx_if_icmp_lt, dX8_isBlinking_65, dX8_isBlinking_66, dX8_isBlinking_69, dX8_isBlinking_70, lX8_isBlinking_221, am_cV_1, am_l0, am_l1, am_l2, am_l3, am_l4, lX8_isBlinking_58, am_fr_8_8, lX8_isBlinking_208, lX8_isBlinking_295, am_cV_2, lX8_isBlinking_298, am_cS_1, lX8_isBlinking_37, am_fr_8_5, am_kd_0, am_gr_0_8, am_kd_63, am_gr_0_5, am_kd_31, t, x0, x1, am_c0, am_c1, r0, r1, k0, k1, w, v]
    | some l =>
      have v : fX4_holds [.ref 60, .int (nI s)] h = some (some (.int 1), h) := (v2 l en).1
      have bb : bk L0 L1 B M0 M1 s = true := by unfold bk; rw [em, en]
      refine ⟨fun _ => ?_, fun c => absurd bb c⟩
      refine am_run1 60 [some (.ref 0), some (.int (nI s))] rfl rfl rfl ?_
      simp only [am_go_s, am_bd_none, am_bd_rt, am_bd_nx, am_bd_ite, am_1i_c, am_2i_c, am_1l_c, am_2l_c, am_li_c, am_1r_c, am_ri_c, am_rii_c, am_ril_c, am_vi_c, am_vl_c, am_vr_c, am_ob_c, am_ob_n, am_ob_ite, am_kk_i, am_kk_r, am_kk_l, am_kk_n, am_ui_1, am_ui_2, am_ul_1, am_ul_2, am_b0, am_tl_s, am_tl_n, am_jp, am_ic, am_ct_n, am_ct_c, am_10, am_01, am_b1, am_nn, or_true, or_false, true_or, false_or, Int32.reduceLT, Int32.reduceLE, Int32.reduceAdd, Int32.reduceSub, not_true_eq_false, not_false_eq_true, Nat.reduceAdd, Int.reduceAdd, Int.reduceNeg, Int.reduceLE, Int.reduceSub, Int.reduceToNat, if_true, if_false, ite_true, ite_false, Bool.or_false, Bool.false_or, Bool.or_true, Bool.true_or, Nat.reduceBEq, Nat.reduceEqDiff, reduceIte, eq_self, false_and, and_false, true_and, and_true, Bool.false_eq_true, Bool.true_eq_false, reduceCtorEq, dX8_isBlinking_0, am_dx_aload_n_0, am_ld_0, dX8_isBlinking_1, am_dx_iload_n_1, am_ld_1, dX8_isBlinking_2, am_dx_invokevirtual, dX8_isBlinking_5, am_dx_ifCond_ne, dX8_isBlinking_8, dX8_isBlinking_9, am_dx_getfield, dX8_isBlinking_12, am_dx_iconst_0, dX8_isBlinking_13, am_dx_aaload, dX8_isBlinking_14, dX8_isBlinking_15, dX8_isBlinking_18, dX8_isBlinking_21, dX8_isBlinking_22, dX8_isBlinking_25, am_dx_iconst_1, dX8_isBlinking_26, dX8_isBlinking_27, dX8_isBlinking_28, dX8_isBlinking_31, am_dx_ifCond_eq, dX8_isBlinking_34, dX8_isBlinking_35, am_dx_goto, dX8_isBlinking_38, dX8_isBlinking_39, am_dx_ireturn, dX8_isBlinking_40, dX8_isBlinking_41, dX8_isBlinking_42, dX8_isBlinking_43, dX8_isBlinking_46, dX8_isBlinking_47, dX8_isBlinking_48, dX8_isBlinking_49, dX8_isBlinking_52, am_dx_isub, dX8_isBlinking_53, am_dx_invokestatic, dX8_isBlinking_56, dX8_isBlinking_57, dX8_isBlinking_60, am_dx_iconst_3, dX8_isBlinking_61, am_dx_iaload, dX8_isBlinking_62, am_dx_if_icmp_lt, dX8_isBlinking_65, dX8_isBlinking_66, dX8_isBlinking_69, dX8_isBlinking_70, lX8_isBlinking_221, am_cV_1, am_l0, am_l1, am_l2, am_l3, am_l4, lX8_isBlinking_58, am_fr_8_8, lX8_isBlinking_208, lX8_isBlinking_295, am_cV_2, lX8_isBlinking_298, am_cS_1, lX8_isBlinking_37, am_fr_8_5, am_kd_0, am_gr_0_8, am_kd_63, am_gr_0_5, am_kd_31, t, x0, x1, am_c0, am_c1, r0, r1, k0, k1, w, v]
  | some k =>
    obtain ⟨w, u, hk⟩ := w2 k em
    have w : fX4_holds [.ref 57, .int (nI s)] h = some (some (.int 1), h) := w
    cases en : M1 s with
    | none =>
      have nb : ¬ bi M0 M1 s = true := by unfold bi; rw [en]; simp
      have t := t2 nb
      have bb : bk L0 L1 B M0 M1 s = true := by unfold bk; rw [em, en]
      refine ⟨fun _ => ?_, fun c => absurd bb c⟩
      refine am_run1 60 [some (.ref 0), some (.int (nI s))] rfl rfl rfl ?_
      simp only [am_go_s, am_bd_none, am_bd_rt, am_bd_nx, am_bd_ite, am_1i_c, am_2i_c, am_1l_c, am_2l_c, am_li_c, am_1r_c, am_ri_c, am_rii_c, am_ril_c, am_vi_c, am_vl_c, am_vr_c, am_ob_c, am_ob_n, am_ob_ite, am_kk_i, am_kk_r, am_kk_l, am_kk_n, am_ui_1, am_ui_2, am_ul_1, am_ul_2, am_b0, am_tl_s, am_tl_n, am_jp, am_ic, am_ct_n, am_ct_c, am_10, am_01, am_b1, am_nn, or_true, or_false, true_or, false_or, Int32.reduceLT, Int32.reduceLE, Int32.reduceAdd, Int32.reduceSub, not_true_eq_false, not_false_eq_true, Nat.reduceAdd, Int.reduceAdd, Int.reduceNeg, Int.reduceLE, Int.reduceSub, Int.reduceToNat, if_true, if_false, ite_true, ite_false, Bool.or_false, Bool.false_or, Bool.or_true, Bool.true_or, Nat.reduceBEq, Nat.reduceEqDiff, reduceIte, eq_self, false_and, and_false, true_and, and_true, Bool.false_eq_true, Bool.true_eq_false, reduceCtorEq, dX8_isBlinking_0, am_dx_aload_n_0, am_ld_0, dX8_isBlinking_1, am_dx_iload_n_1, am_ld_1, dX8_isBlinking_2, am_dx_invokevirtual, dX8_isBlinking_5, am_dx_ifCond_ne, dX8_isBlinking_8, dX8_isBlinking_9, am_dx_getfield, dX8_isBlinking_12, am_dx_iconst_0, dX8_isBlinking_13, am_dx_aaload, dX8_isBlinking_14, dX8_isBlinking_15, dX8_isBlinking_18, dX8_isBlinking_21, dX8_isBlinking_22, dX8_isBlinking_25, am_dx_iconst_1, dX8_isBlinking_26, dX8_isBlinking_27, dX8_isBlinking_28, dX8_isBlinking_31, am_dx_ifCond_eq, dX8_isBlinking_34, dX8_isBlinking_35, am_dx_goto, dX8_isBlinking_38, dX8_isBlinking_39, am_dx_ireturn, dX8_isBlinking_40, dX8_isBlinking_41, dX8_isBlinking_42, dX8_isBlinking_43, dX8_isBlinking_46, dX8_isBlinking_47, dX8_isBlinking_48, dX8_isBlinking_49, dX8_isBlinking_52, am_dx_isub, dX8_isBlinking_53, am_dx_invokestatic, dX8_isBlinking_56, dX8_isBlinking_57, dX8_isBlinking_60, am_dx_iconst_3, dX8_isBlinking_61, am_dx_iaload, dX8_isBlinking_62, am_dx_if_icmp_lt, dX8_isBlinking_65, dX8_isBlinking_66, dX8_isBlinking_69, dX8_isBlinking_70, lX8_isBlinking_221, am_cV_1, am_l0, am_l1, am_l2, am_l3, am_l4, lX8_isBlinking_58, am_fr_8_8, lX8_isBlinking_208, lX8_isBlinking_295, am_cV_2, lX8_isBlinking_298, am_cS_1, lX8_isBlinking_37, am_fr_8_5, am_kd_0, am_gr_0_8, am_kd_63, am_gr_0_5, am_kd_31, t, x0, x1, am_c0, am_c1, r0, r1, k0, k1, w]
    | some l =>
      obtain ⟨v, u2, hl⟩ := v2 l en
      have t := t1 (bi_s em en)
      have l1 : fX8_lightOf [.ref 0, .int 0, .int (nI s)] h = some (some (.int (h.1 8 k)), h) := m_X8_lightOf 0 (by omega) h s k hs hk u
      have l2 : fX8_lightOf [.ref 0, .int 1, .int (nI s)] h = some (some (.int (h.1 12 l)), h) := m_X8_lightOf 1 (by omega) h s l hs hl u2
      rw [e0] at l1
      rw [e1] at l2
      have ma : ∀ (x : Int32) (h : am_H), fJ9_abs_0f7a4 [.int x] h = some (some (.int (ab3 x)), h) := fun x h => m_J9_abs x h
      have bb : bk L0 L1 B M0 M1 s = decide (B ≤ ab3 (L0 k - L1 l)) := by unfold bk; rw [em, en]
      rw [bb]
      by_cases c : B ≤ ab3 (L0 k - L1 l)
      · have c2 : ¬ ab3 (L0 k - L1 l) < B := Int32.not_lt.mpr c
        refine ⟨fun _ => ?_, fun d => absurd (decide_eq_true c) d⟩
        refine am_run1 60 [some (.ref 0), some (.int (nI s))] rfl rfl rfl ?_
        simp only [am_go_s, am_bd_none, am_bd_rt, am_bd_nx, am_bd_ite, am_1i_c, am_2i_c, am_1l_c, am_2l_c, am_li_c, am_1r_c, am_ri_c, am_rii_c, am_ril_c, am_vi_c, am_vl_c, am_vr_c, am_ob_c, am_ob_n, am_ob_ite, am_kk_i, am_kk_r, am_kk_l, am_kk_n, am_ui_1, am_ui_2, am_ul_1, am_ul_2, am_b0, am_tl_s, am_tl_n, am_jp, am_ic, am_ct_n, am_ct_c, am_10, am_01, am_b1, am_nn, or_true, or_false, true_or, false_or, Int32.reduceLT, Int32.reduceLE, Int32.reduceAdd, Int32.reduceSub, not_true_eq_false, not_false_eq_true, Nat.reduceAdd, Int.reduceAdd, Int.reduceNeg, Int.reduceLE, Int.reduceSub, Int.reduceToNat, if_true, if_false, ite_true, ite_false, Bool.or_false, Bool.false_or, Bool.or_true, Bool.true_or, Nat.reduceBEq, Nat.reduceEqDiff, reduceIte, eq_self, false_and, and_false, true_and, and_true, Bool.false_eq_true, Bool.true_eq_false, reduceCtorEq, dX8_isBlinking_0, am_dx_aload_n_0, am_ld_0, dX8_isBlinking_1, am_dx_iload_n_1, am_ld_1, dX8_isBlinking_2, am_dx_invokevirtual, dX8_isBlinking_5, am_dx_ifCond_ne, dX8_isBlinking_8, dX8_isBlinking_9, am_dx_getfield, dX8_isBlinking_12, am_dx_iconst_0, dX8_isBlinking_13, am_dx_aaload, dX8_isBlinking_14, dX8_isBlinking_15, dX8_isBlinking_18, dX8_isBlinking_21, dX8_isBlinking_22, dX8_isBlinking_25, am_dx_iconst_1, dX8_isBlinking_26, dX8_isBlinking_27, dX8_isBlinking_28, dX8_isBlinking_31, am_dx_ifCond_eq, dX8_isBlinking_34, dX8_isBlinking_35, am_dx_goto, dX8_isBlinking_38, dX8_isBlinking_39, am_dx_ireturn, dX8_isBlinking_40, dX8_isBlinking_41, dX8_isBlinking_42, dX8_isBlinking_43, dX8_isBlinking_46, dX8_isBlinking_47, dX8_isBlinking_48, dX8_isBlinking_49, dX8_isBlinking_52, am_dx_isub, dX8_isBlinking_53, am_dx_invokestatic, dX8_isBlinking_56, dX8_isBlinking_57, dX8_isBlinking_60, am_dx_iconst_3, dX8_isBlinking_61, am_dx_iaload, dX8_isBlinking_62, am_dx_if_icmp_lt, dX8_isBlinking_65, dX8_isBlinking_66, dX8_isBlinking_69, dX8_isBlinking_70, lX8_isBlinking_221, am_cV_1, am_l0, am_l1, am_l2, am_l3, am_l4, lX8_isBlinking_58, am_fr_8_8, lX8_isBlinking_208, lX8_isBlinking_295, am_cV_2, lX8_isBlinking_298, am_cS_1, lX8_isBlinking_37, am_fr_8_5, am_kd_0, am_gr_0_8, am_kd_63, am_gr_0_5, am_kd_31, t, l1, l2, ma, x3, am_c3, eB, c2]
      · have c2 : ab3 (L0 k - L1 l) < B := Int32.not_le.mp c
        refine ⟨fun d => absurd (of_decide_eq_true d) c, fun _ => ?_⟩
        refine am_run1 60 [some (.ref 0), some (.int (nI s))] rfl rfl rfl ?_
        simp only [am_go_s, am_bd_none, am_bd_rt, am_bd_nx, am_bd_ite, am_1i_c, am_2i_c, am_1l_c, am_2l_c, am_li_c, am_1r_c, am_ri_c, am_rii_c, am_ril_c, am_vi_c, am_vl_c, am_vr_c, am_ob_c, am_ob_n, am_ob_ite, am_kk_i, am_kk_r, am_kk_l, am_kk_n, am_ui_1, am_ui_2, am_ul_1, am_ul_2, am_b0, am_tl_s, am_tl_n, am_jp, am_ic, am_ct_n, am_ct_c, am_10, am_01, am_b1, am_nn, or_true, or_false, true_or, false_or, Int32.reduceLT, Int32.reduceLE, Int32.reduceAdd, Int32.reduceSub, not_true_eq_false, not_false_eq_true, Nat.reduceAdd, Int.reduceAdd, Int.reduceNeg, Int.reduceLE, Int.reduceSub, Int.reduceToNat, if_true, if_false, ite_true, ite_false, Bool.or_false, Bool.false_or, Bool.or_true, Bool.true_or, Nat.reduceBEq, Nat.reduceEqDiff, reduceIte, eq_self, false_and, and_false, true_and, and_true, Bool.false_eq_true, Bool.true_eq_false, reduceCtorEq, dX8_isBlinking_0, am_dx_aload_n_0, am_ld_0, dX8_isBlinking_1, am_dx_iload_n_1, am_ld_1, dX8_isBlinking_2, am_dx_invokevirtual, dX8_isBlinking_5, am_dx_ifCond_ne, dX8_isBlinking_8, dX8_isBlinking_9, am_dx_getfield, dX8_isBlinking_12, am_dx_iconst_0, dX8_isBlinking_13, am_dx_aaload, dX8_isBlinking_14, dX8_isBlinking_15, dX8_isBlinking_18, dX8_isBlinking_21, dX8_isBlinking_22, dX8_isBlinking_25, am_dx_iconst_1, dX8_isBlinking_26, dX8_isBlinking_27, dX8_isBlinking_28, dX8_isBlinking_31, am_dx_ifCond_eq, dX8_isBlinking_34, dX8_isBlinking_35, am_dx_goto, dX8_isBlinking_38, dX8_isBlinking_39, am_dx_ireturn, dX8_isBlinking_40, dX8_isBlinking_41, dX8_isBlinking_42, dX8_isBlinking_43, dX8_isBlinking_46, dX8_isBlinking_47, dX8_isBlinking_48, dX8_isBlinking_49, dX8_isBlinking_52, am_dx_isub, dX8_isBlinking_53, am_dx_invokestatic, dX8_isBlinking_56, dX8_isBlinking_57, dX8_isBlinking_60, am_dx_iconst_3, dX8_isBlinking_61, am_dx_iaload, dX8_isBlinking_62, am_dx_if_icmp_lt, dX8_isBlinking_65, dX8_isBlinking_66, dX8_isBlinking_69, dX8_isBlinking_70, lX8_isBlinking_221, am_cV_1, am_l0, am_l1, am_l2, am_l3, am_l4, lX8_isBlinking_58, am_fr_8_8, lX8_isBlinking_208, lX8_isBlinking_295, am_cV_2, lX8_isBlinking_298, am_cS_1, lX8_isBlinking_37, am_fr_8_5, am_kd_0, am_gr_0_8, am_kd_63, am_gr_0_5, am_kd_31, t, l1, l2, ma, x3, am_c3, eB, c2]
theorem ab3_c {x B : Int32} (hx : -999 ≤ x.toInt ∧ x.toInt ≤ 999) (hB : 1 ≤ B.toInt ∧ B.toInt ≤ 999) : B ≤ ab3 x ↔ (B ≤ x ∨ ¬ -B < x) := by
  have e : (-B).toInt = -B.toInt := by
    rw [Int32.toInt_neg, i32_bm (by omega) (by omega)]
  have e2 : (-x).toInt = -x.toInt := by
    rw [Int32.toInt_neg, i32_bm (by omega) (by omega)]
  unfold ab3
  by_cases c : 0 ≤ x
  · rw [if_pos c]
    rw [Int32.le_iff_toInt_le, Int32.toInt_zero] at c
    rw [Int32.le_iff_toInt_le, Int32.lt_iff_toInt_lt, e]
    omega
  · rw [if_neg c]
    rw [Int32.le_iff_toInt_le, Int32.toInt_zero] at c
    rw [Int32.le_iff_toInt_le, Int32.le_iff_toInt_le, Int32.lt_iff_toInt_lt, e, e2]
    omega
