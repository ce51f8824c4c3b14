/-! floorDiv and floor -/
theorem i64_div' {a b : Int64} (hb : 0 < b.toInt) : (a / b).toInt = a.toInt.tdiv b.toInt := by
  rw [Int64.toInt_div]
  have h1 := Int64.le_toInt a
  have h2 := Int64.toInt_lt a
  have h3 : (a.toInt.tdiv b.toInt).natAbs ≤ a.toInt.natAbs := by
    rw [Int.natAbs_tdiv]
    exact Nat.div_le_self _ _
  have h4 : a.toInt < 0 → a.toInt.tdiv b.toInt ≤ 0 := by
    intro hn
    have := Int.tdiv_nonneg (a := -a.toInt) (b := b.toInt) (by omega) (by omega)
    rw [Int.neg_tdiv] at this
    omega
  generalize a.toInt.tdiv b.toInt = t at h3 h4 ⊢
  exact i64_bm (by omega) (by omega)
/-- what is left over, as whole numbers -/
theorem i64_rem' {a b : Int64} (hb : 0 < b.toInt) : (a - a / b * b).toInt = a.toInt.tmod b.toInt ∧ (a / b * b).toInt = a.toInt - a.toInt.tmod b.toInt := by
  have h1 := Int64.le_toInt a
  have h2 := Int64.toInt_lt a
  have e1 := i64_div' (a := a) hb
  have e2 := Int.mul_tdiv_add_tmod a.toInt b.toInt
  rw [Int.mul_comm] at e2
  have e3 : (a.toInt.tmod b.toInt).natAbs ≤ a.toInt.natAbs := by
    rw [Int.natAbs_tmod]
    exact Nat.mod_le _ _
  have e4 : 0 ≤ a.toInt → 0 ≤ a.toInt.tmod b.toInt := fun z => Int.tmod_nonneg _ z
  have e5 : a.toInt < 0 → a.toInt.tmod b.toInt ≤ 0 := by
    intro hn
    have := Int.tmod_nonneg b.toInt (a := -a.toInt) (by omega)
    rw [Int.neg_tmod] at this
    omega
  rw [← e1] at e2
  generalize a.toInt.tmod b.toInt = t at e2 e3 e4 e5 ⊢
  have m1 : (a / b * b).toInt = (a / b).toInt * b.toInt := i64_mul' (by omega) (by omega)
  refine ⟨?_, by rw [m1]; omega⟩
  rw [i64_sub' (by rw [m1]; omega) (by rw [m1]; omega), m1]
  omega
theorem i64_msb (z : Int64) : (0 ≤ z) = (z.toBitVec.msb = false) := by
  rw [Int64.le_iff_toInt_le, Int64.toInt_zero, BitVec.msb_eq_toInt]
  apply propext
  rw [decide_eq_false_iff_not, Int.not_lt]
  rfl
theorem i64_xor {x y : Int64} (hy : 0 < y.toInt) : (0 ≤ x ^^^ y) = (0 ≤ x) := by
  have h : y.toBitVec.msb = false := by
    rw [← i64_msb, Int64.le_iff_toInt_le, Int64.toInt_zero]
    omega
  rw [i64_msb, i64_msb, Int64.toBitVec_xor, BitVec.msb_xor, h]
  simp
theorem jf_fl {x y : Int64} (hy : 0 < y.toInt) : jf_div x y = ft_fl x y := by
  obtain ⟨r1, r2⟩ := i64_rem' (a := x) hy
  have t1 : 0 ≤ x.toInt → 0 ≤ x.toInt.tmod y.toInt := fun z => Int.tmod_nonneg _ z
  have t2 : x.toInt < 0 → x.toInt.tmod y.toInt ≤ 0 := by
    intro hn
    have := Int.tmod_nonneg y.toInt (a := -x.toInt) (by omega)
    rw [Int.neg_tmod] at this
    omega
  unfold jf_div ft_fl
  simp only [i64_xor hy, Int64.le_iff_toInt_le, Int64.lt_iff_toInt_lt, Int64.toInt_zero, r1, ← Int64.toInt_inj (x := x / y * y), r2]
  generalize x.toInt.tmod y.toInt = t at *
  by_cases c : 0 ≤ x.toInt
  · rw [if_pos c, if_neg (by have := t1 c; omega)]
  · rw [if_neg c]
    have := t2 (by omega)
    by_cases d : t = 0
    · rw [if_pos (by omega), if_neg (by omega)]
    · rw [if_neg (by omega), if_pos (by omega)]
theorem m_X2_placeOf (h : am_H) (n : Nat) (S : ft_4) (z : Int64 × Int64 × Int64) (r0 : h.1 64 4 = nI n) (r1 : h.2 64 5 = S.1) (r2 : h.2 64 6 = S.2.1) (r3 : h.2 64 7 = S.2.2.1) (r4 : h.2 64 8 = S.2.2.2) (hz : ab_has h z) (x y ax : Int32) (hb : 0 < ((nI n).toInt64 * z.1).toInt) : fX2_placeOf [.ref 64, .int x, .int y, .int ax] h = some (some (.long (ft_fl (ft_up (nI n).toInt64 S z x.toInt64 y.toInt64 ax) ((nI n).toInt64 * z.1))), h) := by
  obtain ⟨z1, z2, z3⟩ := hz
  have hp : 0 < (nI n).toInt64 * z.1 := by
    rw [Int64.lt_iff_toInt_lt, Int64.toInt_zero]
    exact hb
  have h0 : ¬ (nI n).toInt64 * z.1 = 0 := fun e => by rw [e] at hp; exact absurd hp (by decide)
  unfold ft_up
  by_cases e : ax = 0
  · rw [if_pos e]
    have q := m_J9_floorDiv (S.2.2.1 * z.1 + z.2.1 * ((nI n).toInt64 * x.toInt64 - S.1) - z.2.2 * ((nI n).toInt64 * y.toInt64 - S.2.1)) _ h h0
    rw [jf_fl hb] at q
    generalize ft_fl (S.2.2.1 * z.1 + z.2.1 * ((nI n).toInt64 * x.toInt64 - S.1) - z.2.2 * ((nI n).toInt64 * y.toInt64 - S.2.1)) ((nI n).toInt64 * z.1) = res at q
    refine am_run1 80 [some (.ref 64), some (.int x), some (.int y), some (.int ax), none, none, none, none, none, none, none, none] rfl rfl rfl ?_
    simp only [am_go_s, am_bd_none, am_bd_rt, am_bd_nx, am_bd_ite, am_1i_c, am_2i_c, am_1l_c, am_2l_c, am_li_c, am_1r_c, am_ri_c, am_rii_c, am_ril_c, am_vi_c, am_vl_c, am_vr_c, am_ob_c, am_ob_n, am_ob_ite, am_kk_i, am_kk_r, am_kk_l, am_kk_n, am_ui_1, am_ui_2, am_ul_1, am_ul_2, am_b0, am_tl_s, am_tl_n, am_jp, am_ic, am_ct_n, am_ct_c, am_10, am_01, am_b1, am_nn, or_true, or_false, true_or, false_or, Int32.reduceLT, Int32.reduceLE, Int32.reduceAdd, Int32.reduceSub, not_true_eq_false, not_false_eq_true, Nat.reduceAdd, Int.reduceAdd, Int.reduceNeg, Int.reduceLE, Int.reduceSub, Int.reduceToNat, if_true, if_false, ite_true, ite_false, Bool.or_false, Bool.false_or, Bool.or_true, Bool.true_or, Nat.reduceBEq, Nat.reduceEqDiff, reduceIte, eq_self, false_and, and_false, true_and, and_true, Bool.false_eq_true, Bool.true_eq_false, reduceCtorEq, dX2_placeOf_0, am_dx_aload_n_0, am_ld_0, dX2_placeOf_1, am_dx_getfield, dX2_placeOf_4, am_dx_i2l, dX2_placeOf_5, dX2_placeOf_6, dX2_placeOf_9, am_dx_lmul, dX2_placeOf_10, am_dx_lstore_4, am_set_4, am_ld_3, am_set_3, am_st2_4, am_lnl_5, am_set_5, dX2_placeOf_12, am_dx_lload_4, am_ld_4, dX2_placeOf_14, am_dx_lconst_0, dX2_placeOf_15, am_dx_lcmp, dX2_placeOf_16, am_dx_ifCond_gt, dX2_placeOf_19, am_dx_ldc2_w, dX2_placeOf_22, am_dx_lreturn, dX2_placeOf_23, dX2_placeOf_24, dX2_placeOf_27, dX2_placeOf_28, am_dx_iload_n_1, am_ld_1, dX2_placeOf_29, dX2_placeOf_30, dX2_placeOf_31, dX2_placeOf_32, dX2_placeOf_35, am_dx_lsub, dX2_placeOf_36, am_dx_lstore_6, am_set_6, am_ld_5, am_st2_6, am_lnl_7, am_set_7, dX2_placeOf_38, dX2_placeOf_39, dX2_placeOf_42, dX2_placeOf_43, am_dx_iload_n_2, am_ld_2, dX2_placeOf_44, dX2_placeOf_45, dX2_placeOf_46, dX2_placeOf_47, dX2_placeOf_50, dX2_placeOf_51, am_dx_lstore_8, am_set_8, am_ld_7, am_st2_8, am_lnl_9, am_set_9, dX2_placeOf_53, am_dx_iload_n_3, dX2_placeOf_54, am_dx_ifCond_ne, dX2_placeOf_57, dX2_placeOf_58, dX2_placeOf_61, dX2_placeOf_62, dX2_placeOf_65, dX2_placeOf_66, dX2_placeOf_67, dX2_placeOf_70, am_dx_lload_6, am_ld_6, dX2_placeOf_72, dX2_placeOf_73, am_dx_ladd, dX2_placeOf_74, dX2_placeOf_75, dX2_placeOf_78, am_dx_lload_8, am_ld_8, dX2_placeOf_80, dX2_placeOf_81, dX2_placeOf_82, am_dx_goto, dX2_placeOf_85, dX2_placeOf_86, dX2_placeOf_89, dX2_placeOf_90, dX2_placeOf_93, dX2_placeOf_94, dX2_placeOf_95, dX2_placeOf_98, dX2_placeOf_100, dX2_placeOf_101, dX2_placeOf_102, dX2_placeOf_103, dX2_placeOf_106, dX2_placeOf_108, dX2_placeOf_109, dX2_placeOf_110, am_dx_lstore_10, am_set_10, am_ld_9, am_st2_10, am_lnl_11, am_set_11, dX2_placeOf_112, am_dx_lload_10, am_ld_10, dX2_placeOf_114, dX2_placeOf_116, am_dx_invokestatic, dX2_placeOf_119, lX2_placeOf_24, am_fr_2_4, am_fw_2_4, lX2_placeOf_47, am_fr_2_11, am_fw_2_11, lX2_placeOf_50, lX2_placeOf_28, am_fr_2_5, am_fw_2_5, lX2_placeOf_32, am_fr_2_6, am_fw_2_6, lX2_placeOf_35, am_fr_2_7, am_fw_2_7, lX2_placeOf_41, am_fr_2_9, am_fw_2_9, lX2_placeOf_44, am_fr_2_10, am_fw_2_10, lX2_placeOf_38, am_fr_2_8, am_fw_2_8, lX2_placeOf_52, am_cS_2, am_l0, am_l1, am_l2, am_l3, am_l4, am_kd_64, r0, r1, r2, r3, r4, z1, z2, z3, am_lc_gt0, hp, e, q]
  · rw [if_neg e]
    have q := m_J9_floorDiv (S.2.2.2 * z.1 + z.2.2 * ((nI n).toInt64 * x.toInt64 - S.1) + z.2.1 * ((nI n).toInt64 * y.toInt64 - S.2.1)) _ h h0
    rw [jf_fl hb] at q
    generalize ft_fl (S.2.2.2 * z.1 + z.2.2 * ((nI n).toInt64 * x.toInt64 - S.1) + z.2.1 * ((nI n).toInt64 * y.toInt64 - S.2.1)) ((nI n).toInt64 * z.1) = res at q
    refine am_run1 80 [some (.ref 64), some (.int x), some (.int y), some (.int ax), none, none, none, none, none, none, none, none] rfl rfl rfl ?_
    simp only [am_go_s, am_bd_none, am_bd_rt, am_bd_nx, am_bd_ite, am_1i_c, am_2i_c, am_1l_c, am_2l_c, am_li_c, am_1r_c, am_ri_c, am_rii_c, am_ril_c, am_vi_c, am_vl_c, am_vr_c, am_ob_c, am_ob_n, am_ob_ite, am_kk_i, am_kk_r, am_kk_l, am_kk_n, am_ui_1, am_ui_2, am_ul_1, am_ul_2, am_b0, am_tl_s, am_tl_n, am_jp, am_ic, am_ct_n, am_ct_c, am_10, am_01, am_b1, am_nn, or_true, or_false, true_or, false_or, Int32.reduceLT, Int32.reduceLE, Int32.reduceAdd, Int32.reduceSub, not_true_eq_false, not_false_eq_true, Nat.reduceAdd, Int.reduceAdd, Int.reduceNeg, Int.reduceLE, Int.reduceSub, Int.reduceToNat, if_true, if_false, ite_true, ite_false, Bool.or_false, Bool.false_or, Bool.or_true, Bool.true_or, Nat.reduceBEq, Nat.reduceEqDiff, reduceIte, eq_self, false_and, and_false, true_and, and_true, Bool.false_eq_true, Bool.true_eq_false, reduceCtorEq, dX2_placeOf_0, am_dx_aload_n_0, am_ld_0, dX2_placeOf_1, am_dx_getfield, dX2_placeOf_4, am_dx_i2l, dX2_placeOf_5, dX2_placeOf_6, dX2_placeOf_9, am_dx_lmul, dX2_placeOf_10, am_dx_lstore_4, am_set_4, am_ld_3, am_set_3, am_st2_4, am_lnl_5, am_set_5, dX2_placeOf_12, am_dx_lload_4, am_ld_4, dX2_placeOf_14, am_dx_lconst_0, dX2_placeOf_15, am_dx_lcmp, dX2_placeOf_16, am_dx_ifCond_gt, dX2_placeOf_19, am_dx_ldc2_w, dX2_placeOf_22, am_dx_lreturn, dX2_placeOf_23, dX2_placeOf_24, dX2_placeOf_27, dX2_placeOf_28, am_dx_iload_n_1, am_ld_1, dX2_placeOf_29, dX2_placeOf_30, dX2_placeOf_31, dX2_placeOf_32, dX2_placeOf_35, am_dx_lsub, dX2_placeOf_36, am_dx_lstore_6, am_set_6, am_ld_5, am_st2_6, am_lnl_7, am_set_7, dX2_placeOf_38, dX2_placeOf_39, dX2_placeOf_42, dX2_placeOf_43, am_dx_iload_n_2, am_ld_2, dX2_placeOf_44, dX2_placeOf_45, dX2_placeOf_46, dX2_placeOf_47, dX2_placeOf_50, dX2_placeOf_51, am_dx_lstore_8, am_set_8, am_ld_7, am_st2_8, am_lnl_9, am_set_9, dX2_placeOf_53, am_dx_iload_n_3, dX2_placeOf_54, am_dx_ifCond_ne, dX2_placeOf_57, dX2_placeOf_58, dX2_placeOf_61, dX2_placeOf_62, dX2_placeOf_65, dX2_placeOf_66, dX2_placeOf_67, dX2_placeOf_70, am_dx_lload_6, am_ld_6, dX2_placeOf_72, dX2_placeOf_73, am_dx_ladd, dX2_placeOf_74, dX2_placeOf_75, dX2_placeOf_78, am_dx_lload_8, am_ld_8, dX2_placeOf_80, dX2_placeOf_81, dX2_placeOf_82, am_dx_goto, dX2_placeOf_85, dX2_placeOf_86, dX2_placeOf_89, dX2_placeOf_90, dX2_placeOf_93, dX2_placeOf_94, dX2_placeOf_95, dX2_placeOf_98, dX2_placeOf_100, dX2_placeOf_101, dX2_placeOf_102, dX2_placeOf_103, dX2_placeOf_106, dX2_placeOf_108, dX2_placeOf_109, dX2_placeOf_110, am_dx_lstore_10, am_set_10, am_ld_9, am_st2_10, am_lnl_11, am_set_11, dX2_placeOf_112, am_dx_lload_10, am_ld_10, dX2_placeOf_114, dX2_placeOf_116, am_dx_invokestatic, dX2_placeOf_119, lX2_placeOf_24, am_fr_2_4, am_fw_2_4, lX2_placeOf_47, am_fr_2_11, am_fw_2_11, lX2_placeOf_50, lX2_placeOf_28, am_fr_2_5, am_fw_2_5, lX2_placeOf_32, am_fr_2_6, am_fw_2_6, lX2_placeOf_35, am_fr_2_7, am_fw_2_7, lX2_placeOf_41, am_fr_2_9, am_fw_2_9, lX2_placeOf_44, am_fr_2_10, am_fw_2_10, lX2_placeOf_38, am_fr_2_8, am_fw_2_8, lX2_placeOf_52, am_cS_2, am_l0, am_l1, am_l2, am_l3, am_l4, am_kd_64, r0, r1, r2, r3, r4, z1, z2, z3, am_lc_gt0, hp, e, q]
