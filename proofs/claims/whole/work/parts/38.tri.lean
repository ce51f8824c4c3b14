/-! triples: sides, twist, order -/
def ts_side (X Y : Nat → Int32) (i j : Nat) : Int64 := (X i - X j).toInt64 * (X i - X j).toInt64 + (Y i - Y j).toInt64 * (Y i - Y j).toInt64
def ts_tw (X Y : Nat → Int32) (i j k : Nat) : Int64 := (X j - X i).toInt64 * (Y k - Y i).toInt64 - (Y j - Y i).toInt64 * (X k - X i).toInt64
theorem m_X5_squareBetween (k : Nat) (hd : dt_ok k) (i j : Nat) (hi : i < 8) (hj : j < 8) (h : am_H) : fX5_squareBetween [.ref k, .int (nI i), .int (nI j)] h = some (some (.long (ts_side (h.1 (k + 1)) (h.1 (k + 2)) i j)), h) := by
  obtain ⟨d0, d1, d2, d3, d4, d5, d6⟩ := hd
  have hx : ∀ z : am_S, am_ix (nI i) 8 z = z := fun z => am_ix_c hi (by omega)
  have hc := am_clp hi (by omega)
  have hy : ∀ z : am_S, am_ix (nI j) 8 z = z := fun z => am_ix_c hj (by omega)
  have hcm := am_clp hj (by omega)
  refine am_run1 40 [some (.ref k), some (.int (nI i)), some (.int (nI j)), none, none, none, none] rfl rfl rfl ?_
  simp only [am_go_s, am_bd_none, am_bd_rt, am_bd_nx, am_bd_ite, am_1i_c, am_2i_c, am_1l_c, am_2l_c, am_li_c, am_1r_c, am_ri_c, am_rii_c, am_ril_c, am_vi_c, am_vl_c, am_vr_c, am_ob_c, am_ob_n, am_ob_ite, am_kk_i, am_kk_r, am_kk_l, am_kk_n, am_ui_1, am_ui_2, am_ul_1, am_ul_2, am_b0, am_tl_s, am_tl_n, am_jp, am_ic, am_ct_n, am_ct_c, am_10, am_01, am_b1, am_nn, or_true, or_false, true_or, false_or, Int32.reduceLT, Int32.reduceLE, Int32.reduceAdd, Int32.reduceSub, not_true_eq_false, not_false_eq_true, Nat.reduceAdd, Int.reduceAdd, Int.reduceNeg, Int.reduceLE, Int.reduceSub, Int.reduceToNat, if_true, if_false, ite_true, ite_false, Bool.or_false, Bool.false_or, Bool.or_true, Bool.true_or, Nat.reduceBEq, Nat.reduceEqDiff, reduceIte, eq_self, false_and, and_false, true_and, and_true, Bool.false_eq_true, Bool.true_eq_false, reduceCtorEq, dX5_squareBetween_0, am_dx_aload_n_0, am_ld_0, dX5_squareBetween_1, am_dx_getfield, dX5_squareBetween_4, am_dx_iload_n_1, am_ld_1, dX5_squareBetween_5, am_dx_iaload, dX5_squareBetween_6, dX5_squareBetween_7, dX5_squareBetween_10, am_dx_iload_n_2, am_ld_2, dX5_squareBetween_11, dX5_squareBetween_12, am_dx_isub, dX5_squareBetween_13, am_dx_i2l, dX5_squareBetween_14, am_dx_lstore_n_3, am_set_3, am_set_2, am_st2_3, am_lnl_4, am_set_4, dX5_squareBetween_15, dX5_squareBetween_16, dX5_squareBetween_19, dX5_squareBetween_20, dX5_squareBetween_21, dX5_squareBetween_22, dX5_squareBetween_25, dX5_squareBetween_26, dX5_squareBetween_27, dX5_squareBetween_28, dX5_squareBetween_29, am_dx_lstore_5, am_set_5, am_ld_4, am_st2_5, am_lnl_6, am_set_6, dX5_squareBetween_31, am_dx_lload_n_3, am_ld_3, dX5_squareBetween_32, dX5_squareBetween_33, am_dx_lmul, dX5_squareBetween_34, am_dx_lload_5, am_ld_5, dX5_squareBetween_36, dX5_squareBetween_38, dX5_squareBetween_39, am_dx_ladd, dX5_squareBetween_40, am_dx_lreturn, lX5_squareBetween_49, am_fr_1_0, lX5_squareBetween_54, am_fr_1_1, d0, d1, d2, d4, d5, hx, hc, hy, hcm, ts_side]
theorem m_X9_side (g : Nat) (hg : g < 3) (i j : Nat) (hi : i < 8) (hj : j < 8) (h : am_H) : fX9_side [.ref 77, .int (nI g), .int (nI i), .int (nI j)] h = some (some (.long (ts_side (fun a => h.1 79 (8 * g + a)) (fun a => h.1 80 (8 * g + a)) i j)), h) := by
  have hx : ∀ z : am_S, am_ix (nI (8 * g + i)) 24 z = z := fun z => am_ix_c (by omega) (by omega)
  have hc : (nI (8 * g + i)).toNatClampNeg = 8 * g + i := am_clp (n := 24) (by omega) (by omega)
  have hy : ∀ z : am_S, am_ix (nI (8 * g + j)) 24 z = z := fun z => am_ix_c (by omega) (by omega)
  have hcm : (nI (8 * g + j)).toNatClampNeg = 8 * g + j := am_clp (n := 24) (by omega) (by omega)
  refine am_run1 60 [some (.ref 77), some (.int (nI g)), some (.int (nI i)), some (.int (nI j)), none, none, none, none] rfl rfl rfl ?_
  simp only [am_go_s, am_bd_none, am_bd_rt, am_bd_nx, am_bd_ite, am_1i_c, am_2i_c, am_1l_c, am_2l_c, am_li_c, am_1r_c, am_ri_c, am_rii_c, am_ril_c, am_vi_c, am_vl_c, am_vr_c, am_ob_c, am_ob_n, am_ob_ite, am_kk_i, am_kk_r, am_kk_l, am_kk_n, am_ui_1, am_ui_2, am_ul_1, am_ul_2, am_b0, am_tl_s, am_tl_n, am_jp, am_ic, am_ct_n, am_ct_c, am_10, am_01, am_b1, am_nn, or_true, or_false, true_or, false_or, Int32.reduceLT, Int32.reduceLE, Int32.reduceAdd, Int32.reduceSub, not_true_eq_false, not_false_eq_true, Nat.reduceAdd, Int.reduceAdd, Int.reduceNeg, Int.reduceLE, Int.reduceSub, Int.reduceToNat, if_true, if_false, ite_true, ite_false, Bool.or_false, Bool.false_or, Bool.or_true, Bool.true_or, Nat.reduceBEq, Nat.reduceEqDiff, reduceIte, eq_self, false_and, and_false, true_and, and_true, Bool.false_eq_true, Bool.true_eq_false, reduceCtorEq, dX9_side_0, am_dx_aload_n_0, am_ld_0, dX9_side_1, am_dx_getfield, dX9_side_4, am_dx_bipush_8, dX9_side_6, am_dx_iload_n_1, am_ld_1, dX9_side_7, am_dx_imul, dX9_side_8, am_dx_iload_n_2, am_ld_2, dX9_side_9, am_dx_iadd, dX9_side_10, am_dx_iaload, dX9_side_11, dX9_side_12, dX9_side_15, dX9_side_17, dX9_side_18, dX9_side_19, am_dx_iload_n_3, am_ld_3, dX9_side_20, dX9_side_21, dX9_side_22, am_dx_isub, dX9_side_23, am_dx_i2l, dX9_side_24, am_dx_lstore_4, am_set_4, am_set_3, am_st2_4, am_lnl_5, am_set_5, dX9_side_26, dX9_side_27, dX9_side_30, dX9_side_32, dX9_side_33, dX9_side_34, dX9_side_35, dX9_side_36, dX9_side_37, dX9_side_38, dX9_side_41, dX9_side_43, dX9_side_44, dX9_side_45, dX9_side_46, dX9_side_47, dX9_side_48, dX9_side_49, dX9_side_50, am_dx_lstore_6, am_set_6, am_ld_5, am_st2_6, am_lnl_7, am_set_7, dX9_side_52, am_dx_lload_4, am_ld_4, dX9_side_54, dX9_side_56, am_dx_lmul, dX9_side_57, am_dx_lload_6, am_ld_6, dX9_side_59, dX9_side_61, dX9_side_62, am_dx_ladd, dX9_side_63, am_dx_lreturn, lX9_side_13, am_fr_9_1, lX9_side_16, am_fr_9_2, am_kd_77, am_gr_77_1, am_kd_79, am_gr_77_2, am_kd_80, am_8, hx, hc, hy, hcm, ts_side]
theorem m_X9_twist (g : Nat) (hg : g < 3) (i j k : Nat) (hi : i < 8) (hj : j < 8) (hk : k < 8) (h : am_H) : fX9_twist [.ref 77, .int (nI g), .int (nI i), .int (nI j), .int (nI k)] h = some (some (.long (ts_tw (fun a => h.1 79 (8 * g + a)) (fun a => h.1 80 (8 * g + a)) i j k)), h) := by
  have hx : ∀ z : am_S, am_ix (nI (8 * g + i)) 24 z = z := fun z => am_ix_c (by omega) (by omega)
  have hc : (nI (8 * g + i)).toNatClampNeg = 8 * g + i := am_clp (n := 24) (by omega) (by omega)
  have hy : ∀ z : am_S, am_ix (nI (8 * g + j)) 24 z = z := fun z => am_ix_c (by omega) (by omega)
  have hcm : (nI (8 * g + j)).toNatClampNeg = 8 * g + j := am_clp (n := 24) (by omega) (by omega)
  have hz : ∀ z : am_S, am_ix (nI (8 * g + k)) 24 z = z := fun z => am_ix_c (by omega) (by omega)
  have hcn : (nI (8 * g + k)).toNatClampNeg = 8 * g + k := am_clp (n := 24) (by omega) (by omega)
  refine am_run1 80 [some (.ref 77), some (.int (nI g)), some (.int (nI i)), some (.int (nI j)), some (.int (nI k)), none, none, none] rfl rfl rfl ?_
  simp only [am_go_s, am_bd_none, am_bd_rt, am_bd_nx, am_bd_ite, am_1i_c, am_2i_c, am_1l_c, am_2l_c, am_li_c, am_1r_c, am_ri_c, am_rii_c, am_ril_c, am_vi_c, am_vl_c, am_vr_c, am_ob_c, am_ob_n, am_ob_ite, am_kk_i, am_kk_r, am_kk_l, am_kk_n, am_ui_1, am_ui_2, am_ul_1, am_ul_2, am_b0, am_tl_s, am_tl_n, am_jp, am_ic, am_ct_n, am_ct_c, am_10, am_01, am_b1, am_nn, or_true, or_false, true_or, false_or, Int32.reduceLT, Int32.reduceLE, Int32.reduceAdd, Int32.reduceSub, not_true_eq_false, not_false_eq_true, Nat.reduceAdd, Int.reduceAdd, Int.reduceNeg, Int.reduceLE, Int.reduceSub, Int.reduceToNat, if_true, if_false, ite_true, ite_false, Bool.or_false, Bool.false_or, Bool.or_true, Bool.true_or, Nat.reduceBEq, Nat.reduceEqDiff, reduceIte, eq_self, false_and, and_false, true_and, and_true, Bool.false_eq_true, Bool.true_eq_false, reduceCtorEq, dX9_twist_0, am_dx_bipush_8, dX9_twist_2, am_dx_iload_n_1, am_ld_1, dX9_twist_3, am_dx_imul, dX9_twist_4, am_dx_iload_n_2, am_ld_2, dX9_twist_5, am_dx_iadd, dX9_twist_6, am_dx_istore_5, am_set_5, am_ld_4, am_set_4, am_st1_5, am_lnl_5, dX9_twist_8, dX9_twist_10, dX9_twist_11, dX9_twist_12, am_dx_iload_n_3, am_ld_3, dX9_twist_13, dX9_twist_14, am_dx_istore_6, am_set_6, am_ld_5, am_st1_6, am_lnl_6, dX9_twist_16, dX9_twist_18, dX9_twist_19, dX9_twist_20, am_dx_iload_4, dX9_twist_22, dX9_twist_23, am_dx_istore_7, am_set_7, am_ld_6, am_st1_7, am_lnl_7, dX9_twist_25, am_dx_aload_n_0, am_ld_0, dX9_twist_26, am_dx_getfield, dX9_twist_29, am_dx_iload_6, dX9_twist_31, am_dx_iaload, dX9_twist_32, dX9_twist_33, dX9_twist_36, am_dx_iload_5, dX9_twist_38, dX9_twist_39, am_dx_isub, dX9_twist_40, am_dx_i2l, dX9_twist_41, dX9_twist_42, dX9_twist_45, am_dx_iload_7, am_ld_7, dX9_twist_47, dX9_twist_48, dX9_twist_49, dX9_twist_52, dX9_twist_54, dX9_twist_55, dX9_twist_56, dX9_twist_57, am_dx_lmul, dX9_twist_58, dX9_twist_59, dX9_twist_62, dX9_twist_64, dX9_twist_65, dX9_twist_66, dX9_twist_69, dX9_twist_71, dX9_twist_72, dX9_twist_73, dX9_twist_74, dX9_twist_75, dX9_twist_78, dX9_twist_80, dX9_twist_81, dX9_twist_82, dX9_twist_85, dX9_twist_87, dX9_twist_88, dX9_twist_89, dX9_twist_90, dX9_twist_91, am_dx_lsub, dX9_twist_92, am_dx_lreturn, lX9_twist_13, am_fr_9_1, lX9_twist_16, am_fr_9_2, am_kd_77, am_gr_77_1, am_kd_79, am_gr_77_2, am_kd_80, am_8, hx, hc, hy, hcm, hz, hcn, ts_tw]
theorem am_x3 : (∀ z : am_S, am_ix 0 3 z = z) ∧ (∀ z : am_S, am_ix 1 3 z = z) ∧ (∀ z : am_S, am_ix 2 3 z = z) := ⟨fun z => am_ix_c (j := 0) (by omega) (by omega), fun z => am_ix_c (j := 1) (by omega) (by omega), fun z => am_ix_c (j := 2) (by omega) (by omega)⟩
theorem m_X5_put (s : Nat) (hs : se_ok s) (a : Nat) (ha : a < 3) (c : Int32) (v : Int64) (h : am_H) : fX5_put [.ref s, .int (nI a), .int c, .long v] h = some (none, am_ul (am_ui h (s + 1) a c) (s + 2) a v) := by
  obtain ⟨d0, d1, d2, d3, d4⟩ := hs
  have hx : ∀ z : am_S, am_ix (nI a) 3 z = z := fun z => am_ix_c ha (by omega)
  have hc := am_clp ha (by omega)
  refine am_run1 40 [some (.ref s), some (.int (nI a)), some (.int c), some (.long v), none] rfl rfl rfl ?_
  simp only [am_go_s, am_bd_none, am_bd_rt, am_bd_nx, am_bd_ite, am_1i_c, am_2i_c, am_1l_c, am_2l_c, am_li_c, am_1r_c, am_ri_c, am_rii_c, am_ril_c, am_vi_c, am_vl_c, am_vr_c, am_ob_c, am_ob_n, am_ob_ite, am_kk_i, am_kk_r, am_kk_l, am_kk_n, am_ui_1, am_ui_2, am_ul_1, am_ul_2, am_b0, am_tl_s, am_tl_n, am_jp, am_ic, am_ct_n, am_ct_c, am_10, am_01, am_b1, am_nn, or_true, or_false, true_or, false_or, Int32.reduceLT, Int32.reduceLE, Int32.reduceAdd, Int32.reduceSub, not_true_eq_false, not_false_eq_true, Nat.reduceAdd, Int.reduceAdd, Int.reduceNeg, Int.reduceLE, Int.reduceSub, Int.reduceToNat, if_true, if_false, ite_true, ite_false, Bool.or_false, Bool.false_or, Bool.or_true, Bool.true_or, Nat.reduceBEq, Nat.reduceEqDiff, reduceIte, eq_self, false_and, and_false, true_and, and_true, Bool.false_eq_true, Bool.true_eq_false, reduceCtorEq, dX5_put_0, am_dx_aload_n_0, am_ld_0, dX5_put_1, am_dx_getfield, dX5_put_4, am_dx_iload_n_1, am_ld_1, dX5_put_5, am_dx_iload_n_2, am_ld_2, dX5_put_6, am_dx_iastore, dX5_put_7, dX5_put_8, dX5_put_11, dX5_put_12, am_dx_lload_n_3, am_ld_3, dX5_put_13, am_dx_lastore, dX5_put_14, am_dx_return, lX5_put_7, am_fr_5_0, lX5_put_13, am_fr_5_1, d0, d1, d2, d3, d4, hx, hc]
theorem m_X5_order0 (s : Nat) (hs : se_ok s) (a b : Nat) (ha : a < 3) (hb : b < 3) (h : am_H) (hc : ¬ h.2 (s + 2) b < h.2 (s + 2) a) : fX5_order [.ref s, .int (nI a), .int (nI b)] h = some (none, h) := by
  obtain ⟨d0, d1, d2, d3, d4⟩ := hs
  have hx : ∀ z : am_S, am_ix (nI a) 3 z = z := fun z => am_ix_c ha (by omega)
  have hcl := am_clp ha (by omega)
  have hy : ∀ z : am_S, am_ix (nI b) 3 z = z := fun z => am_ix_c hb (by omega)
  have hcm := am_clp hb (by omega)
  refine am_run1 60 [some (.ref s), some (.int (nI a)), some (.int (nI b)), none, none, none] rfl rfl rfl ?_
  simp only [am_go_s, am_bd_none, am_bd_rt, am_bd_nx, am_bd_ite, am_1i_c, am_2i_c, am_1l_c, am_2l_c, am_li_c, am_1r_c, am_ri_c, am_rii_c, am_ril_c, am_vi_c, am_vl_c, am_vr_c, am_ob_c, am_ob_n, am_ob_ite, am_kk_i, am_kk_r, am_kk_l, am_kk_n, am_ui_1, am_ui_2, am_ul_1, am_ul_2, am_b0, am_tl_s, am_tl_n, am_jp, am_ic, am_ct_n, am_ct_c, am_10, am_01, am_b1, am_nn, or_true, or_false, true_or, false_or, Int32.reduceLT, Int32.reduceLE, Int32.reduceAdd, Int32.reduceSub, not_true_eq_false, not_false_eq_true, Nat.reduceAdd, Int.reduceAdd, Int.reduceNeg, Int.reduceLE, Int.reduceSub, Int.reduceToNat, if_true, if_false, ite_true, ite_false, Bool.or_false, Bool.false_or, Bool.or_true, Bool.true_or, Nat.reduceBEq, Nat.reduceEqDiff, reduceIte, eq_self, false_and, and_false, true_and, and_true, Bool.false_eq_true, Bool.true_eq_false, reduceCtorEq, dX5_order_0, am_dx_aload_n_0, am_ld_0, dX5_order_1, am_dx_getfield, dX5_order_4, am_dx_iload_n_1, am_ld_1, dX5_order_5, am_dx_laload, dX5_order_6, dX5_order_7, dX5_order_10, am_dx_iload_n_2, am_ld_2, dX5_order_11, dX5_order_12, am_dx_lcmp, dX5_order_13, am_dx_ifCond_gt, dX5_order_16, am_dx_return, dX5_order_17, dX5_order_18, dX5_order_21, dX5_order_22, am_dx_iaload, dX5_order_23, am_dx_istore_n_3, am_set_3, am_set_2, am_st1_3, am_lnl_3, dX5_order_24, dX5_order_25, dX5_order_28, dX5_order_29, dX5_order_30, am_dx_lstore_4, am_set_4, am_ld_3, am_st2_4, am_lnl_5, am_set_5, dX5_order_32, dX5_order_33, dX5_order_36, dX5_order_37, dX5_order_38, dX5_order_41, dX5_order_42, dX5_order_43, am_dx_iastore, dX5_order_44, dX5_order_45, dX5_order_48, dX5_order_49, dX5_order_50, dX5_order_53, dX5_order_54, dX5_order_55, am_dx_lastore, dX5_order_56, dX5_order_57, dX5_order_60, dX5_order_61, am_dx_iload_n_3, dX5_order_62, dX5_order_63, dX5_order_64, dX5_order_67, dX5_order_68, am_dx_lload_4, am_ld_4, dX5_order_70, dX5_order_71, lX5_order_13, am_fr_5_1, lX5_order_7, am_fr_5_0, d0, d1, d2, d3, d4, hx, hcl, hy, hcm, am_lc_gt0, hc]
theorem m_X5_order1 (s : Nat) (hs : se_ok s) (a b : Nat) (ha : a < 3) (hb : b < 3) (hab : a ≠ b) (h : am_H) (hc : h.2 (s + 2) b < h.2 (s + 2) a) : fX5_order [.ref s, .int (nI a), .int (nI b)] h = some (none, am_ul (am_ui (am_ul (am_ui h (s + 1) a (h.1 (s + 1) b)) (s + 2) a (h.2 (s + 2) b)) (s + 1) b (h.1 (s + 1) a)) (s + 2) b (h.2 (s + 2) a)) := by
  obtain ⟨d0, d1, d2, d3, d4⟩ := hs
  have hx : ∀ z : am_S, am_ix (nI a) 3 z = z := fun z => am_ix_c ha (by omega)
  have hcl := am_clp ha (by omega)
  have hy : ∀ z : am_S, am_ix (nI b) 3 z = z := fun z => am_ix_c hb (by omega)
  have hcm := am_clp hb (by omega)
  refine am_run1 60 [some (.ref s), some (.int (nI a)), some (.int (nI b)), none, none, none] rfl rfl rfl ?_
  simp only [am_go_s, am_bd_none, am_bd_rt, am_bd_nx, am_bd_ite, am_1i_c, am_2i_c, am_1l_c, am_2l_c, am_li_c, am_1r_c, am_ri_c, am_rii_c, am_ril_c, am_vi_c, am_vl_c, am_vr_c, am_ob_c, am_ob_n, am_ob_ite, am_kk_i, am_kk_r, am_kk_l, am_kk_n, am_ui_1, am_ui_2, am_ul_1, am_ul_2, am_b0, am_tl_s, am_tl_n, am_jp, am_ic, am_ct_n, am_ct_c, am_10, am_01, am_b1, am_nn, or_true, or_false, true_or, false_or, Int32.reduceLT, Int32.reduceLE, Int32.reduceAdd, Int32.reduceSub, not_true_eq_false, not_false_eq_true, Nat.reduceAdd, Int.reduceAdd, Int.reduceNeg, Int.reduceLE, Int.reduceSub, Int.reduceToNat, if_true, if_false, ite_true, ite_false, Bool.or_false, Bool.false_or, Bool.or_true, Bool.true_or, Nat.reduceBEq, Nat.reduceEqDiff, reduceIte, eq_self, false_and, and_false, true_and, and_true, Bool.false_eq_true, Bool.true_eq_false, reduceCtorEq, dX5_order_0, am_dx_aload_n_0, am_ld_0, dX5_order_1, am_dx_getfield, dX5_order_4, am_dx_iload_n_1, am_ld_1, dX5_order_5, am_dx_laload, dX5_order_6, dX5_order_7, dX5_order_10, am_dx_iload_n_2, am_ld_2, dX5_order_11, dX5_order_12, am_dx_lcmp, dX5_order_13, am_dx_ifCond_gt, dX5_order_16, am_dx_return, dX5_order_17, dX5_order_18, dX5_order_21, dX5_order_22, am_dx_iaload, dX5_order_23, am_dx_istore_n_3, am_set_3, am_set_2, am_st1_3, am_lnl_3, dX5_order_24, dX5_order_25, dX5_order_28, dX5_order_29, dX5_order_30, am_dx_lstore_4, am_set_4, am_ld_3, am_st2_4, am_lnl_5, am_set_5, dX5_order_32, dX5_order_33, dX5_order_36, dX5_order_37, dX5_order_38, dX5_order_41, dX5_order_42, dX5_order_43, am_dx_iastore, dX5_order_44, dX5_order_45, dX5_order_48, dX5_order_49, dX5_order_50, dX5_order_53, dX5_order_54, dX5_order_55, am_dx_lastore, dX5_order_56, dX5_order_57, dX5_order_60, dX5_order_61, am_dx_iload_n_3, dX5_order_62, dX5_order_63, dX5_order_64, dX5_order_67, dX5_order_68, am_dx_lload_4, am_ld_4, dX5_order_70, dX5_order_71, lX5_order_13, am_fr_5_1, lX5_order_7, am_fr_5_0, d0, d1, d2, d3, d4, hx, hcl, hy, hcm, am_lc_gt0, hc]
theorem m_X5_turnOf (s : Nat) (hs : se_ok s) (k : Nat) (hd : dt_ok k) (i j l : Nat) (hi : i < 8) (hj : j < 8) (hl : l < 8) (h : am_H) (c0 : h.1 (s + 1) 0 = nI i) (c1 : h.1 (s + 1) 1 = nI j) (c2 : h.1 (s + 1) 2 = nI l) : fX5_turnOf [.ref s, .ref k] h = some (some (.long (ts_tw (h.1 (k + 1)) (h.1 (k + 2)) i j l)), h) := by
  obtain ⟨d0, d1, d2, d3, d4⟩ := hs
  obtain ⟨q0, q1, q2, q3, q4, q5, q6⟩ := hd
  obtain ⟨x0, x1, x2⟩ := am_x3
  have hx : ∀ z : am_S, am_ix (nI i) 8 z = z := fun z => am_ix_c hi (by omega)
  have hcl := am_clp hi (by omega)
  have hy : ∀ z : am_S, am_ix (nI j) 8 z = z := fun z => am_ix_c hj (by omega)
  have hcm := am_clp hj (by omega)
  have hz : ∀ z : am_S, am_ix (nI l) 8 z = z := fun z => am_ix_c hl (by omega)
  have hcn := am_clp hl (by omega)
  refine am_run1 80 [some (.ref s), some (.ref k), none, none, none, none, none, none, none] rfl rfl rfl ?_
  simp only [am_go_s, am_bd_none, am_bd_rt, am_bd_nx, am_bd_ite, am_1i_c, am_2i_c, am_1l_c, am_2l_c, am_li_c, am_1r_c, am_ri_c, am_rii_c, am_ril_c, am_vi_c, am_vl_c, am_vr_c, am_ob_c, am_ob_n, am_ob_ite, am_kk_i, am_kk_r, am_kk_l, am_kk_n, am_ui_1, am_ui_2, am_ul_1, am_ul_2, am_b0, am_tl_s, am_tl_n, am_jp, am_ic, am_ct_n, am_ct_c, am_10, am_01, am_b1, am_nn, or_true, or_false, true_or, false_or, Int32.reduceLT, Int32.reduceLE, Int32.reduceAdd, Int32.reduceSub, not_true_eq_false, not_false_eq_true, Nat.reduceAdd, Int.reduceAdd, Int.reduceNeg, Int.reduceLE, Int.reduceSub, Int.reduceToNat, if_true, if_false, ite_true, ite_false, Bool.or_false, Bool.false_or, Bool.or_true, Bool.true_or, Nat.reduceBEq, Nat.reduceEqDiff, reduceIte, eq_self, false_and, and_false, true_and, and_true, Bool.false_eq_true, Bool.true_eq_false, reduceCtorEq, dX5_turnOf_0, am_dx_aload_n_0, am_ld_0, dX5_turnOf_1, am_dx_getfield, dX5_turnOf_4, am_dx_iconst_0, dX5_turnOf_5, am_dx_iaload, dX5_turnOf_6, am_dx_istore_n_2, am_set_2, am_ld_1, am_set_1, am_st1_2, am_lnl_2, dX5_turnOf_7, dX5_turnOf_8, dX5_turnOf_11, am_dx_iconst_1, dX5_turnOf_12, dX5_turnOf_13, am_dx_istore_n_3, am_set_3, am_ld_2, am_st1_3, am_lnl_3, dX5_turnOf_14, dX5_turnOf_15, dX5_turnOf_18, am_dx_iconst_2, dX5_turnOf_19, dX5_turnOf_20, am_dx_istore_4, am_set_4, am_ld_3, am_st1_4, am_lnl_4, dX5_turnOf_22, am_dx_aload_n_1, dX5_turnOf_23, dX5_turnOf_26, am_dx_iload_n_3, dX5_turnOf_27, dX5_turnOf_28, dX5_turnOf_29, dX5_turnOf_32, am_dx_iload_n_2, dX5_turnOf_33, dX5_turnOf_34, am_dx_isub, dX5_turnOf_35, am_dx_i2l, dX5_turnOf_36, dX5_turnOf_37, dX5_turnOf_40, am_dx_iload_4, am_ld_4, dX5_turnOf_42, dX5_turnOf_43, dX5_turnOf_44, dX5_turnOf_47, dX5_turnOf_48, dX5_turnOf_49, dX5_turnOf_50, dX5_turnOf_51, am_dx_lmul, dX5_turnOf_52, am_dx_lstore_5, am_set_5, am_st2_5, am_lnl_6, am_set_6, dX5_turnOf_54, dX5_turnOf_55, dX5_turnOf_58, dX5_turnOf_59, dX5_turnOf_60, dX5_turnOf_61, dX5_turnOf_64, dX5_turnOf_65, dX5_turnOf_66, dX5_turnOf_67, dX5_turnOf_68, dX5_turnOf_69, dX5_turnOf_72, dX5_turnOf_74, dX5_turnOf_75, dX5_turnOf_76, dX5_turnOf_79, dX5_turnOf_80, dX5_turnOf_81, dX5_turnOf_82, dX5_turnOf_83, dX5_turnOf_84, am_dx_lstore_7, am_set_7, am_ld_6, am_st2_7, am_lnl_8, am_set_8, dX5_turnOf_86, am_dx_lload_5, am_ld_5, dX5_turnOf_88, am_dx_lload_7, am_ld_7, dX5_turnOf_90, am_dx_lsub, dX5_turnOf_91, am_dx_lreturn, lX5_turnOf_7, am_fr_5_0, lX5_turnOf_49, am_fr_1_0, lX5_turnOf_54, am_fr_1_1, d0, d1, d2, d3, d4, q0, q1, q2, q4, q5, x0, x1, x2, am_c0, am_c1, am_c2, c0, c1, c2, hx, hcl, hy, hcm, hz, hcn, ts_tw]
/-- three sides with their corners -/
abbrev ts_T : Type := (Int64 × Nat) × (Int64 × Nat) × (Int64 × Nat)
/-- the shape's rows hold them -/
def se_has (h : am_H) (s : Nat) (t : ts_T) : Prop := h.2 (s + 2) 0 = t.1.1 ∧ h.1 (s + 1) 0 = nI t.1.2 ∧ h.2 (s + 2) 1 = t.2.1.1 ∧ h.1 (s + 1) 1 = nI t.2.1.2 ∧ h.2 (s + 2) 2 = t.2.2.1 ∧ h.1 (s + 1) 2 = nI t.2.2.2
/-- but for a shape's rows and fields nothing is changed -/
def se_fr (h k : am_H) (s : Nat) : Prop := (∀ a, ¬ (s ≤ a ∧ a ≤ s + 2) → k.1 a = h.1 a ∧ k.2 a = h.2 a) ∧ (∀ b, ¬ (2 ≤ b ∧ b ≤ 5) → k.1 s b = h.1 s b)
def ts_01 (t : ts_T) : ts_T := if t.2.1.1 < t.1.1 then (t.2.1, t.1, t.2.2) else t
def ts_12 (t : ts_T) : ts_T := if t.2.2.1 < t.2.1.1 then (t.1, t.2.2, t.2.1) else t
theorem se_fr_tr {a b c : am_H} {s : Nat} (h1 : se_fr a b s) (h2 : se_fr b c s) : se_fr a c s := ⟨fun z hz => ⟨(h2.1 z hz).1.trans (h1.1 z hz).1, (h2.1 z hz).2.trans (h1.1 z hz).2⟩, fun b hb => (h2.2 b hb).trans (h1.2 b hb)⟩
theorem se_fr_rf (a : am_H) (s : Nat) : se_fr a a s := ⟨fun _ _ => ⟨rfl, rfl⟩, fun _ _ => rfl⟩
theorem m_order01 (s : Nat) (hs : se_ok s) (h : am_H) (t : ts_T) (ht : se_has h s t) : ∃ k, fX5_order [.ref s, .int 0, .int 1] h = some (none, k) ∧ se_has k s (ts_01 t) ∧ se_fr h k s := by
  obtain ⟨a0, b0, a1, b1, a2, b2⟩ := ht
  by_cases hc : t.2.1.1 < t.1.1
  · refine ⟨_, m_X5_order1 s hs 0 1 (by omega) (by omega) (by omega) h (by rw [a0, a1]; exact hc), ?_, ?_⟩
    · rw [ts_01, if_pos hc, a0, b0, a1, b1]
      refine ⟨?_, ?_, ?_, ?_, ?_, ?_⟩
      · simp [am_ul, am_ui]
      · simp [am_ul, am_ui]
      · simp [am_ul, am_ui]
      · simp [am_ul, am_ui]
      · simp [am_ul, am_ui, a2]
      · simp [am_ul, am_ui, b2]
    · refine ⟨fun a ha => ⟨?_, ?_⟩, fun b hb => ?_⟩
      · funext b
        simp only [am_ul_1, am_ui_1]
        rw [if_neg (by omega), if_neg (by omega)]
      · funext b
        simp only [am_ul_2, am_ui_2]
        rw [if_neg (by omega), if_neg (by omega)]
      · simp only [am_ul_1, am_ui_1]
        rw [if_neg (by omega), if_neg (by omega)]
  · refine ⟨h, m_X5_order0 s hs 0 1 (by omega) (by omega) h (by rw [a0, a1]; exact hc), ?_, se_fr_rf h s⟩
    rw [ts_01, if_neg hc]
    exact ⟨a0, b0, a1, b1, a2, b2⟩
theorem m_order12 (s : Nat) (hs : se_ok s) (h : am_H) (t : ts_T) (ht : se_has h s t) : ∃ k, fX5_order [.ref s, .int 1, .int 2] h = some (none, k) ∧ se_has k s (ts_12 t) ∧ se_fr h k s := by
  obtain ⟨a0, b0, a1, b1, a2, b2⟩ := ht
  by_cases hc : t.2.2.1 < t.2.1.1
  · refine ⟨_, m_X5_order1 s hs 1 2 (by omega) (by omega) (by omega) h (by rw [a1, a2]; exact hc), ?_, ?_⟩
    · rw [ts_12, if_pos hc, a1, b1, a2, b2]
      refine ⟨?_, ?_, ?_, ?_, ?_, ?_⟩
      · simp [am_ul, am_ui, a0]
      · simp [am_ul, am_ui, b0]
      · simp [am_ul, am_ui]
      · simp [am_ul, am_ui]
      · simp [am_ul, am_ui]
      · simp [am_ul, am_ui]
    · refine ⟨fun a ha => ⟨?_, ?_⟩, fun b hb => ?_⟩
      · funext b
        simp only [am_ul_1, am_ui_1]
        rw [if_neg (by omega), if_neg (by omega)]
      · funext b
        simp only [am_ul_2, am_ui_2]
        rw [if_neg (by omega), if_neg (by omega)]
      · simp only [am_ul_1, am_ui_1]
        rw [if_neg (by omega), if_neg (by omega)]
  · refine ⟨h, m_X5_order0 s hs 1 2 (by omega) (by omega) h (by rw [a1, a2]; exact hc), ?_, se_fr_rf h s⟩
    rw [ts_12, if_neg hc]
    exact ⟨a0, b0, a1, b1, a2, b2⟩
