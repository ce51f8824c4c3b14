/-! word: both alike -/
theorem ab_size (v : Int32) (hv : ¬ v = 0) : ∃ N : Nat, 1 ≤ N ∧ N ≤ 2147483648 ∧ (if 0 ≤ v.toInt64 then v.toInt64 else -v.toInt64) = lN N ∧ (if v < 0 then -v.toInt64 else v.toInt64) = lN N := by
  have hl := Int32.le_toInt v
  have hu := Int32.toInt_lt v
  have h0 : v.toInt ≠ 0 := fun e => hv (Int32.toInt_inj.mp (by rw [e]; rfl))
  have e64 : v.toInt64.toInt = v.toInt := Int32.toInt_toInt64 v
  have cmp : (0 ≤ v.toInt64) ↔ ¬ v < 0 := by
    rw [Int64.le_iff_toInt_le, e64, Int32.lt_iff_toInt_lt]
    show (0 : Int) ≤ _ ↔ ¬ _ < (0 : Int)
    omega
  by_cases hn : v < 0
  · have hn2 : v.toInt < 0 := by simpa using Int32.lt_iff_toInt_lt.mp hn
    refine ⟨(-v.toInt).toNat, by omega, by omega, ?_, ?_⟩
    · rw [if_neg (fun z => cmp.mp z hn)]
      apply Int64.toInt_inj.mp
      rw [pk_lT (by omega), Int64.toInt_neg, e64]
      rw [Int.bmod_eq_of_le (by omega) (by omega)]
      omega
    · rw [if_pos hn]
      apply Int64.toInt_inj.mp
      rw [pk_lT (by omega), Int64.toInt_neg, e64]
      rw [Int.bmod_eq_of_le (by omega) (by omega)]
      omega
  · have hn2 : 0 ≤ v.toInt := by
      have := Int32.le_iff_toInt_le.mp (Int32.not_lt.mp hn)
      simpa using this
    refine ⟨v.toInt.toNat, by omega, by omega, ?_, ?_⟩
    · rw [if_pos (cmp.mpr hn)]
      apply Int64.toInt_inj.mp
      rw [pk_lT (by omega), e64]
      omega
    · rw [if_neg hn]
      apply Int64.toInt_inj.mp
      rw [pk_lT (by omega), e64]
      omega
/-- the upper part, of a size whose highest bit is t -/
def wd_up (N t : Nat) : Nat := if t ≤ 23 then N * 2 ^ (23 - t) else nr_up N (t - 23)
theorem wd_rng {N t : Nat} (hb : hb_is N t) : 8388608 ≤ wd_up N t ∧ wd_up N t ≤ 16777216 := by
  obtain ⟨h1, h2, h3⟩ := hb
  unfold wd_up
  by_cases ht : t ≤ 23
  · rw [if_pos ht]
    have e1 : 2 ^ t * 2 ^ (23 - t) = 8388608 := by rw [← Nat.pow_add, show t + (23 - t) = 23 by omega]
    have e2 : 2 ^ (t + 1) * 2 ^ (23 - t) = 16777216 := by rw [← Nat.pow_add, show t + 1 + (23 - t) = 24 by omega]
    have a1 := Nat.mul_le_mul_right (2 ^ (23 - t)) h1
    have a2 := Nat.mul_le_mul_right (2 ^ (23 - t)) (Nat.le_of_lt h2)
    omega
  · rw [if_neg ht]
    have e1 : 2 ^ (t - 23) * 8388608 = 2 ^ t := by rw [show (8388608 : Nat) = 2 ^ 23 from rfl, ← Nat.pow_add, show t - 23 + 23 = t by omega]
    have e2 : 2 ^ (t - 23) * 16777216 = 2 ^ (t + 1) := by rw [show (16777216 : Nat) = 2 ^ 24 from rfl, ← Nat.pow_add, show t - 23 + 24 = t + 1 by omega]
    have p := Nat.two_pow_pos (t - 23)
    have d1 : 8388608 ≤ N / 2 ^ (t - 23) := (Nat.le_div_iff_mul_le p).mpr (by rw [Nat.mul_comm]; omega)
    have d2 : N / 2 ^ (t - 23) < 16777216 := (Nat.div_lt_iff_lt_mul p).mpr (by rw [Nat.mul_comm]; omega)
    unfold nr_up
    split
    · omega
    · split <;> omega
/-- the word's bits without the sign -/
def wd_bits (N t : Nat) : Nat := (127 + t) * 8388608 + wd_up N t - 8388608
def wd_val (v : Int32) (N t : Nat) : Int32 := if v < 0 then nI (wd_bits N t) ||| -2147483648 else nI (wd_bits N t)
theorem c_word (v : Int32) (hv : ¬ v = 0) (N t : Nat) (hb : hb_is N t) (hN : (if 0 ≤ v.toInt64 then v.toInt64 else -v.toInt64) = lN N) (h : am_H) : fX8_word [.ref 0, .int v] h = some (some (.int (wd_val v N t)), h) := by
  have hA := m_J9_absL v.toInt64 h
  rw [hN] at hA
  have hH := m_X8_highestBit N t hb h
  have h62 := hb_62 hb
  have ht : t < 32 := hb.2.2
  obtain ⟨u1, u2⟩ := wd_rng hb
  refine am_run2 [some (.ref 0), some (.int v), none, none, none, none, none, none] rfl rfl rfl ?_
  have go1 : am_Re GX8_word cX8_word (0, [some (.ref 0), some (.int v), none, none, none, none, none, none], [], h) (46, [some (.ref 0), some (.int v), some (.long (lN N)), none, some (.int (nI t)), some (.long (lN (wd_up N t))), none, none], [], h) := by
    refine am_Re_go (sp := [46]) 80 ?_
    unfold wd_up
    by_cases f : t ≤ 23
    · have f1 : ¬ 23 < nI t := nI_nlt (a := t) (b := 23) |> fun _ => by
        rw [show (23 : Int32) = nI 23 from rfl, nI_ltI (by omega) (by omega)]; omega
      have e1 : 23 - nI t = nI (23 - t) := by rw [← pk_sub f]; rfl
      have hsl := wb_shl N (k := 23 - t) (by omega)
      simp only [am_go_s, am_bd_none, am_bd_rt, am_bd_nx, am_bd_ite, am_1i_c, am_2i_c, am_1l_c, am_2l_c, am_li_c, am_1r_c, am_ri_c, am_rii_c, am_ril_c, am_vi_c, am_vl_c, am_vr_c, am_ob_c, am_ob_n, am_ob_ite, am_kk_i, am_kk_r, am_kk_l, am_kk_n, am_ui_1, am_ui_2, am_ul_1, am_ul_2, am_b0, am_tl_s, am_tl_n, am_jp, am_ic, am_ct_n, am_ct_c, am_10, am_01, am_b1, am_nn, or_true, or_false, true_or, false_or, Int32.reduceLT, Int32.reduceLE, Int32.reduceAdd, Int32.reduceSub, not_true_eq_false, not_false_eq_true, Nat.reduceAdd, Int.reduceAdd, Int.reduceNeg, Int.reduceLE, Int.reduceSub, Int.reduceToNat, if_true, if_false, ite_true, ite_false, Bool.or_false, Bool.false_or, Bool.or_true, Bool.true_or, Nat.reduceBEq, Nat.reduceEqDiff, reduceIte, eq_self, false_and, and_false, true_and, and_true, Bool.false_eq_true, Bool.true_eq_false, reduceCtorEq, dX8_word_0, am_dx_iload_n_1, am_ld_1, dX8_word_1, am_dx_ifCond_ne, dX8_word_4, am_dx_iconst_0, dX8_word_5, am_dx_ireturn, dX8_word_6, dX8_word_7, am_dx_i2l, dX8_word_8, am_dx_invokestatic, dX8_word_11, am_dx_lstore_n_2, am_set_2, am_set_1, am_st2_2, am_lnl_3, am_set_3, dX8_word_12, am_dx_lload_n_2, am_ld_2, dX8_word_13, dX8_word_16, am_dx_istore_4, am_set_4, am_ld_3, am_st1_4, am_lnl_4, dX8_word_18, am_dx_iload_4, am_ld_4, dX8_word_20, am_dx_bipush_23, dX8_word_22, am_dx_if_icmp_gt, dX8_word_25, dX8_word_26, dX8_word_28, dX8_word_30, am_dx_isub, dX8_word_31, am_dx_lshl, dX8_word_32, am_dx_goto, dX8_word_35, dX8_word_36, dX8_word_38, dX8_word_40, dX8_word_41, dX8_word_44, am_dx_lstore_5, am_set_5, am_st2_5, am_lnl_6, am_set_6, dX8_word_46, am_dx_bipush_127, dX8_word_48, dX8_word_50, am_dx_iadd, dX8_word_51, dX8_word_52, dX8_word_54, dX8_word_55, am_dx_lload_5, am_ld_5, dX8_word_57, am_dx_ladd, dX8_word_58, am_dx_ldc2_w, dX8_word_61, am_dx_lsub, dX8_word_62, am_dx_l2i, dX8_word_63, am_dx_istore_7, am_set_7, am_ld_6, am_st1_7, am_lnl_7, dX8_word_65, dX8_word_66, am_dx_ifCond_ge, dX8_word_69, am_dx_iload_7, am_ld_7, dX8_word_71, am_dx_ldc, dX8_word_73, am_dx_ior, dX8_word_74, dX8_word_77, dX8_word_79, lX8_word_117, am_cS_1, am_l0, am_l1, am_l2, am_l3, am_l4, lX8_word_121, lX8_word_125, am_cS_2, lX8_word_129, lX8_word_131, am_kd_0, hv, hA, hH, f1, e1, hsl, f]
    · have f1 : 23 < nI t := by rw [show (23 : Int32) = nI 23 from rfl, nI_ltI (by omega) (by omega)]; omega
      have e1 : nI t - 23 = nI (t - 23) := by rw [← pk_sub (show 23 ≤ t by omega)]; rfl
      have hU := m_X8_nearestUpper N (t - 23) h62 (by omega) (by omega) h
      simp only [am_go_s, am_bd_none, am_bd_rt, am_bd_nx, am_bd_ite, am_1i_c, am_2i_c, am_1l_c, am_2l_c, am_li_c, am_1r_c, am_ri_c, am_rii_c, am_ril_c, am_vi_c, am_vl_c, am_vr_c, am_ob_c, am_ob_n, am_ob_ite, am_kk_i, am_kk_r, am_kk_l, am_kk_n, am_ui_1, am_ui_2, am_ul_1, am_ul_2, am_b0, am_tl_s, am_tl_n, am_jp, am_ic, am_ct_n, am_ct_c, am_10, am_01, am_b1, am_nn, or_true, or_false, true_or, false_or, Int32.reduceLT, Int32.reduceLE, Int32.reduceAdd, Int32.reduceSub, not_true_eq_false, not_false_eq_true, Nat.reduceAdd, Int.reduceAdd, Int.reduceNeg, Int.reduceLE, Int.reduceSub, Int.reduceToNat, if_true, if_false, ite_true, ite_false, Bool.or_false, Bool.false_or, Bool.or_true, Bool.true_or, Nat.reduceBEq, Nat.reduceEqDiff, reduceIte, eq_self, false_and, and_false, true_and, and_true, Bool.false_eq_true, Bool.true_eq_false, reduceCtorEq, dX8_word_0, am_dx_iload_n_1, am_ld_1, dX8_word_1, am_dx_ifCond_ne, dX8_word_4, am_dx_iconst_0, dX8_word_5, am_dx_ireturn, dX8_word_6, dX8_word_7, am_dx_i2l, dX8_word_8, am_dx_invokestatic, dX8_word_11, am_dx_lstore_n_2, am_set_2, am_set_1, am_st2_2, am_lnl_3, am_set_3, dX8_word_12, am_dx_lload_n_2, am_ld_2, dX8_word_13, dX8_word_16, am_dx_istore_4, am_set_4, am_ld_3, am_st1_4, am_lnl_4, dX8_word_18, am_dx_iload_4, am_ld_4, dX8_word_20, am_dx_bipush_23, dX8_word_22, am_dx_if_icmp_gt, dX8_word_25, dX8_word_26, dX8_word_28, dX8_word_30, am_dx_isub, dX8_word_31, am_dx_lshl, dX8_word_32, am_dx_goto, dX8_word_35, dX8_word_36, dX8_word_38, dX8_word_40, dX8_word_41, dX8_word_44, am_dx_lstore_5, am_set_5, am_st2_5, am_lnl_6, am_set_6, dX8_word_46, am_dx_bipush_127, dX8_word_48, dX8_word_50, am_dx_iadd, dX8_word_51, dX8_word_52, dX8_word_54, dX8_word_55, am_dx_lload_5, am_ld_5, dX8_word_57, am_dx_ladd, dX8_word_58, am_dx_ldc2_w, dX8_word_61, am_dx_lsub, dX8_word_62, am_dx_l2i, dX8_word_63, am_dx_istore_7, am_set_7, am_ld_6, am_st1_7, am_lnl_7, dX8_word_65, dX8_word_66, am_dx_ifCond_ge, dX8_word_69, am_dx_iload_7, am_ld_7, dX8_word_71, am_dx_ldc, dX8_word_73, am_dx_ior, dX8_word_74, dX8_word_77, dX8_word_79, lX8_word_117, am_cS_1, am_l0, am_l1, am_l2, am_l3, am_l4, lX8_word_121, lX8_word_125, am_cS_2, lX8_word_129, lX8_word_131, am_kd_0, hv, hA, hH, f1, e1, hU, f]
  refine go1 _ ?_
  have e2 : 127 + nI t = nI (127 + t) := by rw [← nI_add]; rfl
  have e3 : (nI (127 + t)).toInt64 = lN (127 + t) := nI_l (by omega)
  have e4 : lN (127 + t) <<< ((23 : Int32).toInt64 &&& 63) = lN ((127 + t) * 8388608) := wb_shl (127 + t) (k := 23) (by omega)
  have e5 : lN ((127 + t) * 8388608) + lN (wd_up N t) = lN ((127 + t) * 8388608 + wd_up N t) := lN_add _ _
  have e6 : lN ((127 + t) * 8388608 + wd_up N t) - 8388608 = lN (wd_bits N t) := by
    have := lN_sub (a := (127 + t) * 8388608 + wd_up N t) (b := 8388608) (by omega)
    exact this
  have e7 := lN_i (wd_bits N t)
  unfold wd_val
  by_cases f : v < 0
  · have f2 : ¬ 0 ≤ v := Int32.not_le.mpr f
    refine am_Big_end (sp := []) 80 ?_
    simp only [am_go_s, am_bd_none, am_bd_rt, am_bd_nx, am_bd_ite, am_1i_c, am_2i_c, am_1l_c, am_2l_c, am_li_c, am_1r_c, am_ri_c, am_rii_c, am_ril_c, am_vi_c, am_vl_c, am_vr_c, am_ob_c, am_ob_n, am_ob_ite, am_kk_i, am_kk_r, am_kk_l, am_kk_n, am_ui_1, am_ui_2, am_ul_1, am_ul_2, am_b0, am_tl_s, am_tl_n, am_jp, am_ic, am_ct_n, am_ct_c, am_10, am_01, am_b1, am_nn, or_true, or_false, true_or, false_or, Int32.reduceLT, Int32.reduceLE, Int32.reduceAdd, Int32.reduceSub, not_true_eq_false, not_false_eq_true, Nat.reduceAdd, Int.reduceAdd, Int.reduceNeg, Int.reduceLE, Int.reduceSub, Int.reduceToNat, if_true, if_false, ite_true, ite_false, Bool.or_false, Bool.false_or, Bool.or_true, Bool.true_or, Nat.reduceBEq, Nat.reduceEqDiff, reduceIte, eq_self, false_and, and_false, true_and, and_true, Bool.false_eq_true, Bool.true_eq_false, reduceCtorEq, dX8_word_0, am_dx_iload_n_1, am_ld_1, dX8_word_1, am_dx_ifCond_ne, dX8_word_4, am_dx_iconst_0, dX8_word_5, am_dx_ireturn, dX8_word_6, dX8_word_7, am_dx_i2l, dX8_word_8, am_dx_invokestatic, dX8_word_11, am_dx_lstore_n_2, am_set_2, am_set_1, am_st2_2, am_lnl_3, am_set_3, dX8_word_12, am_dx_lload_n_2, am_ld_2, dX8_word_13, dX8_word_16, am_dx_istore_4, am_set_4, am_ld_3, am_st1_4, am_lnl_4, dX8_word_18, am_dx_iload_4, am_ld_4, dX8_word_20, am_dx_bipush_23, dX8_word_22, am_dx_if_icmp_gt, dX8_word_25, dX8_word_26, dX8_word_28, dX8_word_30, am_dx_isub, dX8_word_31, am_dx_lshl, dX8_word_32, am_dx_goto, dX8_word_35, dX8_word_36, dX8_word_38, dX8_word_40, dX8_word_41, dX8_word_44, am_dx_lstore_5, am_set_5, am_st2_5, am_lnl_6, am_set_6, dX8_word_46, am_dx_bipush_127, dX8_word_48, dX8_word_50, am_dx_iadd, dX8_word_51, dX8_word_52, dX8_word_54, dX8_word_55, am_dx_lload_5, am_ld_5, dX8_word_57, am_dx_ladd, dX8_word_58, am_dx_ldc2_w, dX8_word_61, am_dx_lsub, dX8_word_62, am_dx_l2i, dX8_word_63, am_dx_istore_7, am_set_7, am_ld_6, am_st1_7, am_lnl_7, dX8_word_65, dX8_word_66, am_dx_ifCond_ge, dX8_word_69, am_dx_iload_7, am_ld_7, dX8_word_71, am_dx_ldc, dX8_word_73, am_dx_ior, dX8_word_74, dX8_word_77, dX8_word_79, lX8_word_117, am_cS_1, am_l0, am_l1, am_l2, am_l3, am_l4, lX8_word_121, lX8_word_125, am_cS_2, lX8_word_129, lX8_word_131, am_kd_0, e2, e3, e4, e5, e6, e7, f, f2]
  · have f2 : 0 ≤ v := Int32.not_lt.mp f
    refine am_Big_end (sp := []) 80 ?_
    simp only [am_go_s, am_bd_none, am_bd_rt, am_bd_nx, am_bd_ite, am_1i_c, am_2i_c, am_1l_c, am_2l_c, am_li_c, am_1r_c, am_ri_c, am_rii_c, am_ril_c, am_vi_c, am_vl_c, am_vr_c, am_ob_c, am_ob_n, am_ob_ite, am_kk_i, am_kk_r, am_kk_l, am_kk_n, am_ui_1, am_ui_2, am_ul_1, am_ul_2, am_b0, am_tl_s, am_tl_n, am_jp, am_ic, am_ct_n, am_ct_c, am_10, am_01, am_b1, am_nn, or_true, or_false, true_or, false_or, Int32.reduceLT, Int32.reduceLE, Int32.reduceAdd, Int32.reduceSub, not_true_eq_false, not_false_eq_true, Nat.reduceAdd, Int.reduceAdd, Int.reduceNeg, Int.reduceLE, Int.reduceSub, Int.reduceToNat, if_true, if_false, ite_true, ite_false, Bool.or_false, Bool.false_or, Bool.or_true, Bool.true_or, Nat.reduceBEq, Nat.reduceEqDiff, reduceIte, eq_self, false_and, and_false, true_and, and_true, Bool.false_eq_true, Bool.true_eq_false, reduceCtorEq, dX8_word_0, am_dx_iload_n_1, am_ld_1, dX8_word_1, am_dx_ifCond_ne, dX8_word_4, am_dx_iconst_0, dX8_word_5, am_dx_ireturn, dX8_word_6, dX8_word_7, am_dx_i2l, dX8_word_8, am_dx_invokestatic, dX8_word_11, am_dx_lstore_n_2, am_set_2, am_set_1, am_st2_2, am_lnl_3, am_set_3, dX8_word_12, am_dx_lload_n_2, am_ld_2, dX8_word_13, dX8_word_16, am_dx_istore_4, am_set_4, am_ld_3, am_st1_4, am_lnl_4, dX8_word_18, am_dx_iload_4, am_ld_4, dX8_word_20, am_dx_bipush_23, dX8_word_22, am_dx_if_icmp_gt, dX8_word_25, dX8_word_26, dX8_word_28, dX8_word_30, am_dx_isub, dX8_word_31, am_dx_lshl, dX8_word_32, am_dx_goto, dX8_word_35, dX8_word_36, dX8_word_38, dX8_word_40, dX8_word_41, dX8_word_44, am_dx_lstore_5, am_set_5, am_st2_5, am_lnl_6, am_set_6, dX8_word_46, am_dx_bipush_127, dX8_word_48, dX8_word_50, am_dx_iadd, dX8_word_51, dX8_word_52, dX8_word_54, dX8_word_55, am_dx_lload_5, am_ld_5, dX8_word_57, am_dx_ladd, dX8_word_58, am_dx_ldc2_w, dX8_word_61, am_dx_lsub, dX8_word_62, am_dx_l2i, dX8_word_63, am_dx_istore_7, am_set_7, am_ld_6, am_st1_7, am_lnl_7, dX8_word_65, dX8_word_66, am_dx_ifCond_ge, dX8_word_69, am_dx_iload_7, am_ld_7, dX8_word_71, am_dx_ldc, dX8_word_73, am_dx_ior, dX8_word_74, dX8_word_77, dX8_word_79, lX8_word_117, am_cS_1, am_l0, am_l1, am_l2, am_l3, am_l4, lX8_word_121, lX8_word_125, am_cS_2, lX8_word_129, lX8_word_131, am_kd_0, e2, e3, e4, e5, e6, e7, f, f2]
