/-! fitPairs -/
def cq (h : am_H) (p : Nat) (a : Nat × Nat) : ft_q := (h.1 2 a.1, h.1 3 a.1, h.1 (4 * (1 + p) + 2) a.2, h.1 (4 * (1 + p) + 3) a.2)
theorem c_fs (p : Nat) (hp : p < 2) (n : Nat) (hn : n ≤ 8) (M : pm_M) (hM : ∀ s k, M s = some k → k < 8) (h0 : am_H) (e1 : h0.1 1 3 = nI n) (hg : pg_has h0 p M) (s : Nat) (hs : s < n) (w : am_H × Option Value) (r : ft_has w.1 ((pml M s).map (cq h0 p))) (f : ft_fr h0 w.1) : ∃ w2 : am_H × Option Value, (ft_has w2.1 ((pml M (s + 1)).map (cq h0 p)) ∧ ft_fr h0 w2.1) ∧ am_Re GX8_fitPairs cX8_fitPairs (9, [some (.ref 0), some (.int (nI p)), some (.int (nI s)), w.2], [], w.1) (9, [some (.ref 0), some (.int (nI p)), some (.int (nI (s + 1))), w2.2], [], w2.1) := by
  obtain ⟨h, x⟩ := w
  dsimp only at r f ⊢
  have q5 : h.1 1 3 = nI n := by rw [(f 1 (by omega)).1]; exact e1
  have q6 := nIlt' (a := s) (b := n) (by omega) hs
  have d1 : am_kd 1 = (1, 4) := rfl
  have hx : ∀ z : am_S, am_ix (nI p) 2 z = z := fun z => am_ix_c hp (by omega)
  have hcl := am_clp hp (by omega)
  have hgp := gr_63 hp
  have hgr := gr_21 hp
  obtain ⟨d0, d1', d2, d3, d4⟩ := pg_q hp
  obtain ⟨w1, w2⟩ := m_X4_holds p hp s (by omega) h
  have es : h.1 (3 * p + 58) s = mv (M s) := by rw [(f _ (by omega)).1]; exact hg.1 s (by omega)
  cases em : M s with
  | none =>
    rw [em] at es
    have v1 := w1 es
    rw [pml_n em]
    refine ⟨(h, x), ⟨r, f⟩, am_Re_go (sp := [9]) 60 ?_⟩
    simp only [am_go_s, am_bd_none, am_bd_rt, am_bd_nx, am_bd_ite, am_1i_c, am_2i_c, am_1l_c, am_2l_c, am_li_c, am_1r_c, am_ri_c, am_rii_c, am_ril_c, am_vi_c, am_vl_c, am_vr_c, am_ob_c, am_ob_n, am_ob_ite, am_kk_i, am_kk_r, am_kk_l, am_kk_n, am_ui_1, am_ui_2, am_ul_1, am_ul_2, am_b0, am_tl_s, am_tl_n, am_jp, am_ic, am_ct_n, am_ct_c, am_10, am_01, am_b1, am_nn, or_true, or_false, true_or, false_or, Int32.reduceLT, Int32.reduceLE, Int32.reduceAdd, Int32.reduceSub, not_true_eq_false, not_false_eq_true, Nat.reduceAdd, Int.reduceAdd, Int.reduceNeg, Int.reduceLE, Int.reduceSub, Int.reduceToNat, if_true, if_false, ite_true, ite_false, Bool.or_false, Bool.false_or, Bool.or_true, Bool.true_or, Nat.reduceBEq, Nat.reduceEqDiff, reduceIte, eq_self, false_and, and_false, true_and, and_true, Bool.false_eq_true, Bool.true_eq_false, reduceCtorEq, dX8_fitPairs_0, am_dx_aload_n_0, am_ld_0, dX8_fitPairs_1, am_dx_getfield, dX8_fitPairs_4, am_dx_invokevirtual, dX8_fitPairs_7, am_dx_iconst_0, dX8_fitPairs_8, am_dx_istore_n_2, am_set_2, am_ld_1, am_set_1, am_st1_2, am_lnl_2, dX8_fitPairs_9, am_dx_iload_n_2, am_ld_2, dX8_fitPairs_10, dX8_fitPairs_11, dX8_fitPairs_14, dX8_fitPairs_17, am_dx_if_icmp_ge, dX8_fitPairs_20, dX8_fitPairs_21, dX8_fitPairs_24, am_dx_iload_n_1, dX8_fitPairs_25, am_dx_aaload, dX8_fitPairs_26, dX8_fitPairs_27, dX8_fitPairs_30, am_dx_ifCond_ne, dX8_fitPairs_33, am_dx_goto, dX8_fitPairs_36, dX8_fitPairs_37, dX8_fitPairs_40, dX8_fitPairs_41, dX8_fitPairs_42, dX8_fitPairs_45, dX8_fitPairs_46, am_dx_iaload, dX8_fitPairs_47, am_dx_istore_n_3, am_set_3, am_st1_3, am_lnl_3, dX8_fitPairs_48, dX8_fitPairs_49, dX8_fitPairs_52, dX8_fitPairs_53, dX8_fitPairs_56, dX8_fitPairs_59, dX8_fitPairs_60, dX8_fitPairs_61, dX8_fitPairs_62, dX8_fitPairs_65, dX8_fitPairs_68, dX8_fitPairs_69, dX8_fitPairs_70, dX8_fitPairs_71, dX8_fitPairs_74, dX8_fitPairs_75, dX8_fitPairs_76, dX8_fitPairs_79, am_dx_iload_n_3, am_ld_3, dX8_fitPairs_80, dX8_fitPairs_81, dX8_fitPairs_82, dX8_fitPairs_85, dX8_fitPairs_86, dX8_fitPairs_87, dX8_fitPairs_90, dX8_fitPairs_91, dX8_fitPairs_92, dX8_fitPairs_95, am_dx_iinc_2_1, dX8_fitPairs_98, dX8_fitPairs_101, dX8_fitPairs_102, dX8_fitPairs_105, dX8_fitPairs_108, am_dx_ireturn, lX8_fitPairs_65, am_fr_8_9, lX8_fitPairs_282, am_cV_0, am_l0, am_l1, am_l2, am_l3, am_l4, lX8_fitPairs_14, am_fr_8_0, lX8_fitPairs_215, am_fr_1_3, am_fw_1_3, lX8_fitPairs_58, am_fr_8_8, lX8_fitPairs_208, am_cV_1, lX8_fitPairs_176, am_fr_4_0, lX8_fitPairs_198, am_fr_1_0, lX8_fitPairs_201, am_fr_1_1, lX8_fitPairs_18, am_fr_8_1, lX8_fitPairs_285, am_cV_4, lX8_fitPairs_289, am_kd_0, am_gr_0_9, am_kd_64, am_gr_0_0, am_kd_1, am_gr_0_8, am_kd_63, am_gr_0_1, am_kd_21, q5, q6, d1, hx, hcl, hgp, d0, v1, nI_1p]
  | some k =>
    have hk := hM s k em
    rw [em] at es
    have e9 : h.1 (3 * p + 58) s = nI k := es
    have v1 := w2 (by rw [e9]; exact mv_9 (by omega))
    have ll : ((pml M s).map (cq h0 p)).length < 8 := by
      rw [List.length_map, pml_len]
      have := pm_c_le M s
      omega
    rw [pml_s em, List.map_append, List.map_singleton]
    obtain ⟨h2, t1, t2, t3⟩ := m_X2_take h _ ll r (cq h0 p (s, k))
    have c1 : h.1 2 s = (cq h0 p (s, k)).1 := by unfold cq; rw [(f 2 (by omega)).1]
    have c2 : h.1 3 s = (cq h0 p (s, k)).2.1 := by unfold cq; rw [(f 3 (by omega)).1]
    have c3 : h.1 (4 * (1 + p) + 2) k = (cq h0 p (s, k)).2.2.1 := by unfold cq; rw [(f _ (by omega)).1]
    have c4 : h.1 (4 * (1 + p) + 3) k = (cq h0 p (s, k)).2.2.2 := by unfold cq; rw [(f _ (by omega)).1]
    generalize cq h0 p (s, k) = q at t1 t2 c1 c2 c3 c4
    have hy : ∀ z : am_S, am_ix (nI s) 8 z = z := fun z => am_ix_c (show s < 8 by omega) (by omega)
    have hcm := am_clp (show s < 8 by omega) (by omega)
    have hw : ∀ z : am_S, am_ix (nI k) 8 z = z := fun z => am_ix_c hk (by omega)
    have hcw := am_clp hk (by omega)
    obtain ⟨b0, b1, b2, b3, b4, b5, b6⟩ := dt_g (g := 1 + p) (by omega)
    have a1 : am_gr 1 0 = 2 := rfl
    have a2 : am_gr 1 1 = 3 := rfl
    have a3 : am_kd 2 = (20, 8) := rfl
    have a4 : am_kd 3 = (20, 8) := rfl
    refine ⟨(h2, some (.int (nI k))), ⟨t2, ft_tr f t3⟩, am_Re_go (sp := [9]) 80 ?_⟩
    simp only [am_go_s, am_bd_none, am_bd_rt, am_bd_nx, am_bd_ite, am_1i_c, am_2i_c, am_1l_c, am_2l_c, am_li_c, am_1r_c, am_ri_c, am_rii_c, am_ril_c, am_vi_c, am_vl_c, am_vr_c, am_ob_c, am_ob_n, am_ob_ite, am_kk_i, am_kk_r, am_kk_l, am_kk_n, am_ui_1, am_ui_2, am_ul_1, am_ul_2, am_b0, am_tl_s, am_tl_n, am_jp, am_ic, am_ct_n, am_ct_c, am_10, am_01, am_b1, am_nn, or_true, or_false, true_or, false_or, Int32.reduceLT, Int32.reduceLE, Int32.reduceAdd, Int32.reduceSub, not_true_eq_false, not_false_eq_true, Nat.reduceAdd, Int.reduceAdd, Int.reduceNeg, Int.reduceLE, Int.reduceSub, Int.reduceToNat, if_true, if_false, ite_true, ite_false, Bool.or_false, Bool.false_or, Bool.or_true, Bool.true_or, Nat.reduceBEq, Nat.reduceEqDiff, reduceIte, eq_self, false_and, and_false, true_and, and_true, Bool.false_eq_true, Bool.true_eq_false, reduceCtorEq, dX8_fitPairs_0, am_dx_aload_n_0, am_ld_0, dX8_fitPairs_1, am_dx_getfield, dX8_fitPairs_4, am_dx_invokevirtual, dX8_fitPairs_7, am_dx_iconst_0, dX8_fitPairs_8, am_dx_istore_n_2, am_set_2, am_ld_1, am_set_1, am_st1_2, am_lnl_2, dX8_fitPairs_9, am_dx_iload_n_2, am_ld_2, dX8_fitPairs_10, dX8_fitPairs_11, dX8_fitPairs_14, dX8_fitPairs_17, am_dx_if_icmp_ge, dX8_fitPairs_20, dX8_fitPairs_21, dX8_fitPairs_24, am_dx_iload_n_1, dX8_fitPairs_25, am_dx_aaload, dX8_fitPairs_26, dX8_fitPairs_27, dX8_fitPairs_30, am_dx_ifCond_ne, dX8_fitPairs_33, am_dx_goto, dX8_fitPairs_36, dX8_fitPairs_37, dX8_fitPairs_40, dX8_fitPairs_41, dX8_fitPairs_42, dX8_fitPairs_45, dX8_fitPairs_46, am_dx_iaload, dX8_fitPairs_47, am_dx_istore_n_3, am_set_3, am_st1_3, am_lnl_3, dX8_fitPairs_48, dX8_fitPairs_49, dX8_fitPairs_52, dX8_fitPairs_53, dX8_fitPairs_56, dX8_fitPairs_59, dX8_fitPairs_60, dX8_fitPairs_61, dX8_fitPairs_62, dX8_fitPairs_65, dX8_fitPairs_68, dX8_fitPairs_69, dX8_fitPairs_70, dX8_fitPairs_71, dX8_fitPairs_74, dX8_fitPairs_75, dX8_fitPairs_76, dX8_fitPairs_79, am_dx_iload_n_3, am_ld_3, dX8_fitPairs_80, dX8_fitPairs_81, dX8_fitPairs_82, dX8_fitPairs_85, dX8_fitPairs_86, dX8_fitPairs_87, dX8_fitPairs_90, dX8_fitPairs_91, dX8_fitPairs_92, dX8_fitPairs_95, am_dx_iinc_2_1, dX8_fitPairs_98, dX8_fitPairs_101, dX8_fitPairs_102, dX8_fitPairs_105, dX8_fitPairs_108, am_dx_ireturn, lX8_fitPairs_65, am_fr_8_9, lX8_fitPairs_282, am_cV_0, am_l0, am_l1, am_l2, am_l3, am_l4, lX8_fitPairs_14, am_fr_8_0, lX8_fitPairs_215, am_fr_1_3, am_fw_1_3, lX8_fitPairs_58, am_fr_8_8, lX8_fitPairs_208, am_cV_1, lX8_fitPairs_176, am_fr_4_0, lX8_fitPairs_198, am_fr_1_0, lX8_fitPairs_201, am_fr_1_1, lX8_fitPairs_18, am_fr_8_1, lX8_fitPairs_285, am_cV_4, lX8_fitPairs_289, am_kd_0, am_gr_0_9, am_kd_64, am_gr_0_0, am_kd_1, am_gr_0_8, am_kd_63, am_gr_0_1, am_kd_21, q5, q6, d1, hx, hcl, hgp, hgr, d0, d1', d3, v1, e9, hy, hcm, hw, hcw, b0, b1, b2, b4, b5, a1, a2, a3, a4, c1, c2, c3, c4, t1, nI_1p]
