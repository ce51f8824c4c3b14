/-! the common divisor -/
def gc : Nat → Int64 → Int64 → Int64
  | 0, x, _ => x
  | d + 1, x, y => if y = 0 then x else gc d y (x - x / y * y)
theorem gc_z (d : Nat) (x : Int64) : gc d x 0 = x := by
  cases d with
  | zero => rfl
  | succ d => rw [gc, if_pos rfl]
theorem gc_s (d : Nat) (x y : Int64) (h : ¬ y = 0) : gc (d + 1) x y = gc d y (x - x / y * y) := by rw [gc, if_neg h]
def gB (d : Nat) (x y : Int64) : Prop := 0 ≤ y.toInt ∧ y.toInt ≤ x.toInt ∧ x.toInt * y.toInt < 2 ^ d
theorem i64_n0 {y : Int64} (h : ¬ y = 0) : y.toInt ≠ 0 := fun e => h (Int64.toInt_inj.mp (by rw [e]; rfl))
theorem gr_b {x y : Int64} (hx : 0 ≤ x.toInt) (hy : 0 < y.toInt) : 0 ≤ (x - x / y * y).toInt ∧ (x - x / y * y).toInt < y.toInt ∧ (y.toInt ≤ x.toInt → y.toInt + (x - x / y * y).toInt ≤ x.toInt) := by
  rw [(i64_rem' (a := x) hy).1]
  have e : x.toInt.tmod y.toInt = x.toInt % y.toInt := Int.tmod_eq_emod_of_nonneg hx
  rw [e]
  have h1 := Int.emod_nonneg x.toInt (b := y.toInt) (by omega)
  have h2 := Int.emod_lt_of_pos x.toInt hy
  refine ⟨h1, h2, fun h => ?_⟩
  have h3 := Int.mul_ediv_add_emod x.toInt y.toInt
  have h4 : 1 ≤ x.toInt / y.toInt := by
    rw [Int.le_ediv_iff_mul_le hy]
    omega
  have h5 : y.toInt * 1 ≤ y.toInt * (x.toInt / y.toInt) := Int.mul_le_mul_of_nonneg_left h4 (by omega)
  omega
theorem gB_s {d : Nat} {x y : Int64} (h : gB (d + 1) x y) (hy : ¬ y = 0) : gB d y (x - x / y * y) := by
  obtain ⟨h1, h2, h3⟩ := h
  have := i64_n0 hy
  obtain ⟨r1, r2, r3⟩ := gr_b (x := x) (y := y) (by omega) (by omega)
  have r3 := r3 h2
  generalize x - x / y * y = r at r1 r2 r3 ⊢
  refine ⟨r1, by omega, ?_⟩
  have e1 : y.toInt * (2 * r.toInt) ≤ y.toInt * x.toInt := Int.mul_le_mul_of_nonneg_left (by omega) h1
  rw [Int.mul_comm y.toInt x.toInt] at e1
  have e2 : y.toInt * (2 * r.toInt) = 2 * (y.toInt * r.toInt) := by rw [← Int.mul_assoc, Int.mul_comm y.toInt 2, Int.mul_assoc]
  rw [Int.pow_succ] at h3
  omega
theorem gB_0 {x y : Int64} (h : gB 0 x y) : y = 0 := by
  obtain ⟨h1, h2, h3⟩ := h
  refine Classical.byContradiction (fun c => ?_)
  have := i64_n0 c
  have := Int.mul_pos (show 0 < x.toInt by omega) (show 0 < y.toInt by omega)
  rw [Int.pow_zero] at h3
  omega
theorem gc_pos (d : Nat) {x y : Int64} (hx : 0 < x.toInt) (h : gB d x y) : 0 < (gc d x y).toInt := by
  induction d generalizing x y with
  | zero => exact hx
  | succ d ih =>
    by_cases c : y = 0
    · subst c
      rw [gc_z]
      exact hx
    · rw [gc_s d x y c]
      have := i64_n0 c
      exact ih (by have := h.1; omega) (gB_s h c)
theorem g_lp (a0 b0 : Int64) (h : am_H) (d : Nat) : ∀ (x y : Int64) (v : Option Value), gB d x y → am_Big GX9_common cX9_common (17, [some (.long a0), none, some (.long b0), none, some (.long x), none, some (.long y), none, v, none], [], h) (some (.long (gc d x y)), h) := by
  have stop : ∀ (d : Nat) (x y : Int64) (v : Option Value), y = 0 → am_Big GX9_common cX9_common (17, [some (.long a0), none, some (.long b0), none, some (.long x), none, some (.long y), none, v, none], [], h) (some (.long (gc d x y)), h) := by
    intro d x y v e
    subst e
    rw [gc_z]
    have q : (0 : Int64) ≤ 0 := by decide
    refine am_Big_end (sp := []) 40 ?_
    simp only [am_go_s, am_bd_none, am_bd_rt, am_bd_nx, am_bd_ite, am_1i_c, am_2i_c, am_1l_c, am_2l_c, am_li_c, am_1r_c, am_ri_c, am_rii_c, am_ril_c, am_vi_c, am_vl_c, am_vr_c, am_ob_c, am_ob_n, am_ob_ite, am_kk_i, am_kk_r, am_kk_l, am_kk_n, am_ui_1, am_ui_2, am_ul_1, am_ul_2, am_b0, am_tl_s, am_tl_n, am_jp, am_ic, am_ct_n, am_ct_c, am_10, am_01, am_b1, am_nn, or_true, or_false, true_or, false_or, Int32.reduceLT, Int32.reduceLE, Int32.reduceAdd, Int32.reduceSub, not_true_eq_false, not_false_eq_true, Nat.reduceAdd, Int.reduceAdd, Int.reduceNeg, Int.reduceLE, Int.reduceSub, Int.reduceToNat, if_true, if_false, ite_true, ite_false, Bool.or_false, Bool.false_or, Bool.or_true, Bool.true_or, Nat.reduceBEq, Nat.reduceEqDiff, reduceIte, eq_self, false_and, and_false, true_and, and_true, Bool.false_eq_true, Bool.true_eq_false, reduceCtorEq, dX9_common_0, am_dx_lload_n_0, am_ld_0, dX9_common_1, am_dx_lconst_0, dX9_common_2, am_dx_lcmp, dX9_common_3, am_dx_ifCond_ge, dX9_common_6, dX9_common_7, am_dx_lneg, dX9_common_8, am_dx_goto, dX9_common_11, dX9_common_12, am_dx_lstore_4, am_set_4, am_ld_3, am_set_3, am_st2_4, am_lnl_5, am_set_5, dX9_common_14, am_dx_lload_n_2, am_ld_2, dX9_common_15, am_dx_lstore_6, am_set_6, am_ld_5, am_st2_6, am_lnl_7, am_set_7, dX9_common_17, am_dx_lload_6, am_ld_6, dX9_common_19, dX9_common_20, dX9_common_21, am_dx_ifCond_le, dX9_common_24, am_dx_lload_4, am_ld_4, dX9_common_26, dX9_common_28, am_dx_lrem, dX9_common_29, am_dx_lstore_8, am_set_8, am_ld_7, am_st2_8, am_lnl_9, am_set_9, dX9_common_31, dX9_common_33, dX9_common_35, am_dx_lload_8, am_ld_8, dX9_common_37, dX9_common_39, dX9_common_42, dX9_common_44, am_dx_lreturn, am_kd_77, am_lc_le0, q]
  induction d with
  | zero => exact fun x y v g => stop 0 x y v (gB_0 g)
  | succ d ih =>
    intro x y v g
    by_cases c : y = 0
    · exact stop (d + 1) x y v c
    · have := i64_n0 c
      have q : ¬ y ≤ 0 := by
        rw [Int64.le_iff_toInt_le, Int64.toInt_zero]
        have := g.1
        omega
      have ih := ih y (x - x / y * y) (some (.long (x - x / y * y))) (gB_s g c)
      rw [gc_s d x y c]
      have re : am_Re GX9_common cX9_common (17, [some (.long a0), none, some (.long b0), none, some (.long x), none, some (.long y), none, v, none], [], h) (17, [some (.long a0), none, some (.long b0), none, some (.long y), none, some (.long (x - x / y * y)), none, some (.long (x - x / y * y)), none], [], h) := by
        refine am_Re_go (sp := [17]) 40 ?_
        simp only [am_go_s, am_bd_none, am_bd_rt, am_bd_nx, am_bd_ite, am_1i_c, am_2i_c, am_1l_c, am_2l_c, am_li_c, am_1r_c, am_ri_c, am_rii_c, am_ril_c, am_vi_c, am_vl_c, am_vr_c, am_ob_c, am_ob_n, am_ob_ite, am_kk_i, am_kk_r, am_kk_l, am_kk_n, am_ui_1, am_ui_2, am_ul_1, am_ul_2, am_b0, am_tl_s, am_tl_n, am_jp, am_ic, am_ct_n, am_ct_c, am_10, am_01, am_b1, am_nn, or_true, or_false, true_or, false_or, Int32.reduceLT, Int32.reduceLE, Int32.reduceAdd, Int32.reduceSub, not_true_eq_false, not_false_eq_true, Nat.reduceAdd, Int.reduceAdd, Int.reduceNeg, Int.reduceLE, Int.reduceSub, Int.reduceToNat, if_true, if_false, ite_true, ite_false, Bool.or_false, Bool.false_or, Bool.or_true, Bool.true_or, Nat.reduceBEq, Nat.reduceEqDiff, reduceIte, eq_self, false_and, and_false, true_and, and_true, Bool.false_eq_true, Bool.true_eq_false, reduceCtorEq, dX9_common_0, am_dx_lload_n_0, am_ld_0, dX9_common_1, am_dx_lconst_0, dX9_common_2, am_dx_lcmp, dX9_common_3, am_dx_ifCond_ge, dX9_common_6, dX9_common_7, am_dx_lneg, dX9_common_8, am_dx_goto, dX9_common_11, dX9_common_12, am_dx_lstore_4, am_set_4, am_ld_3, am_set_3, am_st2_4, am_lnl_5, am_set_5, dX9_common_14, am_dx_lload_n_2, am_ld_2, dX9_common_15, am_dx_lstore_6, am_set_6, am_ld_5, am_st2_6, am_lnl_7, am_set_7, dX9_common_17, am_dx_lload_6, am_ld_6, dX9_common_19, dX9_common_20, dX9_common_21, am_dx_ifCond_le, dX9_common_24, am_dx_lload_4, am_ld_4, dX9_common_26, dX9_common_28, am_dx_lrem, dX9_common_29, am_dx_lstore_8, am_set_8, am_ld_7, am_st2_8, am_lnl_9, am_set_9, dX9_common_31, dX9_common_33, dX9_common_35, am_dx_lload_8, am_ld_8, dX9_common_37, dX9_common_39, dX9_common_42, dX9_common_44, am_dx_lreturn, am_kd_77, am_lc_le0, q, c]
      exact re _ ih
def ab_s (a : Int64) : Int64 := if 0 ≤ a then a else -a
theorem gB_1 {x y : Int64} (hx : 0 ≤ x.toInt) (hy : 0 < y.toInt) (hy2 : y.toInt ≤ 800000000000) : gB 99 y (x - x / y * y) := by
  obtain ⟨r1, r2, -⟩ := gr_b hx hy
  generalize x - x / y * y = r at r1 r2 ⊢
  refine ⟨r1, by omega, ?_⟩
  have := Int.mul_le_mul hy2 (show r.toInt ≤ 800000000000 by omega) r1 (by omega)
  have e : (2 : Int) ^ 99 = 633825300114114700748351602688 := by decide
  omega
theorem ab_n {a : Int64} (ha : -9000000000000000000 ≤ a.toInt) : 0 ≤ (ab_s a).toInt := by
  unfold ab_s
  by_cases c : 0 ≤ a
  · rw [if_pos c]
    rw [Int64.le_iff_toInt_le, Int64.toInt_zero] at c
    exact c
  · rw [if_neg c]
    have c2 := Int64.not_le.mp c
    rw [Int64.lt_iff_toInt_lt, Int64.toInt_zero] at c2
    rw [Int64.toInt_neg, i64_bm (by omega) (by omega)]
    omega
theorem m_X9_common (a b : Int64) (h : am_H) (ha : -9000000000000000000 ≤ a.toInt) (hb : 0 < b.toInt) (hb2 : b.toInt ≤ 800000000000) : fX9_common [.long a, .long b] h = some (some (.long (gc 100 (ab_s a) b)), h) := by
  have hn := ab_n ha
  have b0 : ¬ b = 0 := fun e => by rw [e, Int64.toInt_zero] at hb; omega
  have q : ¬ b ≤ 0 := by
    rw [Int64.le_iff_toInt_le, Int64.toInt_zero]
    omega
  have g := g_lp a b h 99 b (ab_s a - ab_s a / b * b) (some (.long (ab_s a - ab_s a / b * b))) (gB_1 hn hb hb2)
  rw [gc_s 99 (ab_s a) b b0]
  refine am_run2 [some (.long a), none, some (.long b), none, none, none, none, none, none, none] rfl rfl rfl ?_
  have re : am_Re GX9_common cX9_common (0, [some (.long a), none, some (.long b), none, none, none, none, none, none, none], [], h) (17, [some (.long a), none, some (.long b), none, some (.long (ab_s a)), none, some (.long b), none, none, none], [], h) := by
    unfold ab_s
    by_cases c : 0 ≤ a
    · rw [if_pos c]
      refine am_Re_go (sp := [17]) 40 ?_
      simp only [am_go_s, am_bd_none, am_bd_rt, am_bd_nx, am_bd_ite, am_1i_c, am_2i_c, am_1l_c, am_2l_c, am_li_c, am_1r_c, am_ri_c, am_rii_c, am_ril_c, am_vi_c, am_vl_c, am_vr_c, am_ob_c, am_ob_n, am_ob_ite, am_kk_i, am_kk_r, am_kk_l, am_kk_n, am_ui_1, am_ui_2, am_ul_1, am_ul_2, am_b0, am_tl_s, am_tl_n, am_jp, am_ic, am_ct_n, am_ct_c, am_10, am_01, am_b1, am_nn, or_true, or_false, true_or, false_or, Int32.reduceLT, Int32.reduceLE, Int32.reduceAdd, Int32.reduceSub, not_true_eq_false, not_false_eq_true, Nat.reduceAdd, Int.reduceAdd, Int.reduceNeg, Int.reduceLE, Int.reduceSub, Int.reduceToNat, if_true, if_false, ite_true, ite_false, Bool.or_false, Bool.false_or, Bool.or_true, Bool.true_or, Nat.reduceBEq, Nat.reduceEqDiff, reduceIte, eq_self, false_and, and_false, true_and, and_true, Bool.false_eq_true, Bool.true_eq_false, reduceCtorEq, dX9_common_0, am_dx_lload_n_0, am_ld_0, dX9_common_1, am_dx_lconst_0, dX9_common_2, am_dx_lcmp, dX9_common_3, am_dx_ifCond_ge, dX9_common_6, dX9_common_7, am_dx_lneg, dX9_common_8, am_dx_goto, dX9_common_11, dX9_common_12, am_dx_lstore_4, am_set_4, am_ld_3, am_set_3, am_st2_4, am_lnl_5, am_set_5, dX9_common_14, am_dx_lload_n_2, am_ld_2, dX9_common_15, am_dx_lstore_6, am_set_6, am_ld_5, am_st2_6, am_lnl_7, am_set_7, dX9_common_17, am_dx_lload_6, am_ld_6, dX9_common_19, dX9_common_20, dX9_common_21, am_dx_ifCond_le, dX9_common_24, am_dx_lload_4, am_ld_4, dX9_common_26, dX9_common_28, am_dx_lrem, dX9_common_29, am_dx_lstore_8, am_set_8, am_ld_7, am_st2_8, am_lnl_9, am_set_9, dX9_common_31, dX9_common_33, dX9_common_35, am_dx_lload_8, am_ld_8, dX9_common_37, dX9_common_39, dX9_common_42, dX9_common_44, am_dx_lreturn, am_kd_77, am_lc_ge0, c]
    · rw [if_neg c]
      refine am_Re_go (sp := [17]) 40 ?_
      simp only [am_go_s, am_bd_none, am_bd_rt, am_bd_nx, am_bd_ite, am_1i_c, am_2i_c, am_1l_c, am_2l_c, am_li_c, am_1r_c, am_ri_c, am_rii_c, am_ril_c, am_vi_c, am_vl_c, am_vr_c, am_ob_c, am_ob_n, am_ob_ite, am_kk_i, am_kk_r, am_kk_l, am_kk_n, am_ui_1, am_ui_2, am_ul_1, am_ul_2, am_b0, am_tl_s, am_tl_n, am_jp, am_ic, am_ct_n, am_ct_c, am_10, am_01, am_b1, am_nn, or_true, or_false, true_or, false_or, Int32.reduceLT, Int32.reduceLE, Int32.reduceAdd, Int32.reduceSub, not_true_eq_false, not_false_eq_true, Nat.reduceAdd, Int.reduceAdd, Int.reduceNeg, Int.reduceLE, Int.reduceSub, Int.reduceToNat, if_true, if_false, ite_true, ite_false, Bool.or_false, Bool.false_or, Bool.or_true, Bool.true_or, Nat.reduceBEq, Nat.reduceEqDiff, reduceIte, eq_self, false_and, and_false, true_and, and_true, Bool.false_eq_true, Bool.true_eq_false, reduceCtorEq, dX9_common_0, am_dx_lload_n_0, am_ld_0, dX9_common_1, am_dx_lconst_0, dX9_common_2, am_dx_lcmp, dX9_common_3, am_dx_ifCond_ge, dX9_common_6, dX9_common_7, am_dx_lneg, dX9_common_8, am_dx_goto, dX9_common_11, dX9_common_12, am_dx_lstore_4, am_set_4, am_ld_3, am_set_3, am_st2_4, am_lnl_5, am_set_5, dX9_common_14, am_dx_lload_n_2, am_ld_2, dX9_common_15, am_dx_lstore_6, am_set_6, am_ld_5, am_st2_6, am_lnl_7, am_set_7, dX9_common_17, am_dx_lload_6, am_ld_6, dX9_common_19, dX9_common_20, dX9_common_21, am_dx_ifCond_le, dX9_common_24, am_dx_lload_4, am_ld_4, dX9_common_26, dX9_common_28, am_dx_lrem, dX9_common_29, am_dx_lstore_8, am_set_8, am_ld_7, am_st2_8, am_lnl_9, am_set_9, dX9_common_31, dX9_common_33, dX9_common_35, am_dx_lload_8, am_ld_8, dX9_common_37, dX9_common_39, dX9_common_42, dX9_common_44, am_dx_lreturn, am_kd_77, am_lc_ge0, c]
  have re2 : am_Re GX9_common cX9_common (17, [some (.long a), none, some (.long b), none, some (.long (ab_s a)), none, some (.long b), none, none, none], [], h) (17, [some (.long a), none, some (.long b), none, some (.long b), none, some (.long (ab_s a - ab_s a / b * b)), none, some (.long (ab_s a - ab_s a / b * b)), none], [], h) := by
    generalize ab_s a = x
    refine am_Re_go (sp := [17]) 40 ?_
    simp only [am_go_s, am_bd_none, am_bd_rt, am_bd_nx, am_bd_ite, am_1i_c, am_2i_c, am_1l_c, am_2l_c, am_li_c, am_1r_c, am_ri_c, am_rii_c, am_ril_c, am_vi_c, am_vl_c, am_vr_c, am_ob_c, am_ob_n, am_ob_ite, am_kk_i, am_kk_r, am_kk_l, am_kk_n, am_ui_1, am_ui_2, am_ul_1, am_ul_2, am_b0, am_tl_s, am_tl_n, am_jp, am_ic, am_ct_n, am_ct_c, am_10, am_01, am_b1, am_nn, or_true, or_false, true_or, false_or, Int32.reduceLT, Int32.reduceLE, Int32.reduceAdd, Int32.reduceSub, not_true_eq_false, not_false_eq_true, Nat.reduceAdd, Int.reduceAdd, Int.reduceNeg, Int.reduceLE, Int.reduceSub, Int.reduceToNat, if_true, if_false, ite_true, ite_false, Bool.or_false, Bool.false_or, Bool.or_true, Bool.true_or, Nat.reduceBEq, Nat.reduceEqDiff, reduceIte, eq_self, false_and, and_false, true_and, and_true, Bool.false_eq_true, Bool.true_eq_false, reduceCtorEq, dX9_common_0, am_dx_lload_n_0, am_ld_0, dX9_common_1, am_dx_lconst_0, dX9_common_2, am_dx_lcmp, dX9_common_3, am_dx_ifCond_ge, dX9_common_6, dX9_common_7, am_dx_lneg, dX9_common_8, am_dx_goto, dX9_common_11, dX9_common_12, am_dx_lstore_4, am_set_4, am_ld_3, am_set_3, am_st2_4, am_lnl_5, am_set_5, dX9_common_14, am_dx_lload_n_2, am_ld_2, dX9_common_15, am_dx_lstore_6, am_set_6, am_ld_5, am_st2_6, am_lnl_7, am_set_7, dX9_common_17, am_dx_lload_6, am_ld_6, dX9_common_19, dX9_common_20, dX9_common_21, am_dx_ifCond_le, dX9_common_24, am_dx_lload_4, am_ld_4, dX9_common_26, dX9_common_28, am_dx_lrem, dX9_common_29, am_dx_lstore_8, am_set_8, am_ld_7, am_st2_8, am_lnl_9, am_set_9, dX9_common_31, dX9_common_33, dX9_common_35, am_dx_lload_8, am_ld_8, dX9_common_37, dX9_common_39, dX9_common_42, dX9_common_44, am_dx_lreturn, am_kd_77, am_lc_le0, q, b0]
  exact re _ (re2 _ g)
theorem m_X8_commonDivisor (a0 b0 : Int64) (h : am_H) : fX8_commonDivisor [.long a0, .long b0] h = some (some (.long (gc 100 a0 b0)), h) := by
  have key : ∀ (e i : Nat), i + e = 100 → ∀ (x y : Int64) (v : Option Value), am_Big GX8_commonDivisor cX8_commonDivisor (9, [some (.long a0), none, some (.long b0), none, some (.long x), none, some (.long y), none, some (.int (nI i)), v, none], [], h) (some (.long (gc e x y)), h) := by
    intro e
    induction e with
    | zero =>
      intro i hi x y v
      have q6 : 100 ≤ nI i := nIle' (a := i) (b := 100) (by omega) (by omega)
      rw [gc]
      refine am_Big_end (sp := []) 40 ?_
      simp only [am_go_s, am_bd_none, am_bd_rt, am_bd_nx, am_bd_ite, am_1i_c, am_2i_c, am_1l_c, am_2l_c, am_li_c, am_1r_c, am_ri_c, am_rii_c, am_ril_c, am_vi_c, am_vl_c, am_vr_c, am_ob_c, am_ob_n, am_ob_ite, am_kk_i, am_kk_r, am_kk_l, am_kk_n, am_ui_1, am_ui_2, am_ul_1, am_ul_2, am_b0, am_tl_s, am_tl_n, am_jp, am_ic, am_ct_n, am_ct_c, am_10, am_01, am_b1, am_nn, or_true, or_false, true_or, false_or, Int32.reduceLT, Int32.reduceLE, Int32.reduceAdd, Int32.reduceSub, not_true_eq_false, not_false_eq_true, Nat.reduceAdd, Int.reduceAdd, Int.reduceNeg, Int.reduceLE, Int.reduceSub, Int.reduceToNat, if_true, if_false, ite_true, ite_false, Bool.or_false, Bool.false_or, Bool.or_true, Bool.true_or, Nat.reduceBEq, Nat.reduceEqDiff, reduceIte, eq_self, false_and, and_false, true_and, and_true, Bool.false_eq_true, Bool.true_eq_false, reduceCtorEq, dX8_commonDivisor_0, am_dx_lload_n_0, am_ld_0, dX8_commonDivisor_1, am_dx_lstore_4, am_set_4, am_ld_3, am_set_3, am_st2_4, am_lnl_5, am_set_5, dX8_commonDivisor_3, am_dx_lload_n_2, am_ld_2, dX8_commonDivisor_4, am_dx_lstore_6, am_set_6, am_ld_5, am_st2_6, am_lnl_7, am_set_7, dX8_commonDivisor_6, am_dx_iconst_0, dX8_commonDivisor_7, am_dx_istore_8, am_set_8, am_ld_7, am_st1_8, am_lnl_8, dX8_commonDivisor_9, am_dx_iload_8, am_ld_8, dX8_commonDivisor_11, am_dx_bipush_100, dX8_commonDivisor_13, am_dx_if_icmp_ge, dX8_commonDivisor_16, am_dx_lload_6, am_ld_6, dX8_commonDivisor_18, am_dx_lconst_0, dX8_commonDivisor_19, am_dx_lcmp, dX8_commonDivisor_20, am_dx_ifCond_eq, dX8_commonDivisor_23, am_dx_lload_4, am_ld_4, dX8_commonDivisor_25, dX8_commonDivisor_27, am_dx_lrem, dX8_commonDivisor_28, am_dx_lstore_9, am_set_9, am_st2_9, am_lnl_10, am_set_10, dX8_commonDivisor_30, dX8_commonDivisor_32, dX8_commonDivisor_34, am_dx_lload_9, am_ld_9, dX8_commonDivisor_36, dX8_commonDivisor_38, am_dx_iinc_8_1, dX8_commonDivisor_41, am_dx_goto, dX8_commonDivisor_44, dX8_commonDivisor_46, am_dx_lreturn, am_kd_0, q6]
    | succ e ih =>
      intro i hi x y v
      have q6 : ¬ 100 ≤ nI i := nIlt' (a := i) (b := 100) (by omega) (by omega)
      by_cases c : y = 0
      · subst c
        rw [gc_z]
        refine am_Big_end (sp := []) 40 ?_
        simp only [am_go_s, am_bd_none, am_bd_rt, am_bd_nx, am_bd_ite, am_1i_c, am_2i_c, am_1l_c, am_2l_c, am_li_c, am_1r_c, am_ri_c, am_rii_c, am_ril_c, am_vi_c, am_vl_c, am_vr_c, am_ob_c, am_ob_n, am_ob_ite, am_kk_i, am_kk_r, am_kk_l, am_kk_n, am_ui_1, am_ui_2, am_ul_1, am_ul_2, am_b0, am_tl_s, am_tl_n, am_jp, am_ic, am_ct_n, am_ct_c, am_10, am_01, am_b1, am_nn, or_true, or_false, true_or, false_or, Int32.reduceLT, Int32.reduceLE, Int32.reduceAdd, Int32.reduceSub, not_true_eq_false, not_false_eq_true, Nat.reduceAdd, Int.reduceAdd, Int.reduceNeg, Int.reduceLE, Int.reduceSub, Int.reduceToNat, if_true, if_false, ite_true, ite_false, Bool.or_false, Bool.false_or, Bool.or_true, Bool.true_or, Nat.reduceBEq, Nat.reduceEqDiff, reduceIte, eq_self, false_and, and_false, true_and, and_true, Bool.false_eq_true, Bool.true_eq_false, reduceCtorEq, dX8_commonDivisor_0, am_dx_lload_n_0, am_ld_0, dX8_commonDivisor_1, am_dx_lstore_4, am_set_4, am_ld_3, am_set_3, am_st2_4, am_lnl_5, am_set_5, dX8_commonDivisor_3, am_dx_lload_n_2, am_ld_2, dX8_commonDivisor_4, am_dx_lstore_6, am_set_6, am_ld_5, am_st2_6, am_lnl_7, am_set_7, dX8_commonDivisor_6, am_dx_iconst_0, dX8_commonDivisor_7, am_dx_istore_8, am_set_8, am_ld_7, am_st1_8, am_lnl_8, dX8_commonDivisor_9, am_dx_iload_8, am_ld_8, dX8_commonDivisor_11, am_dx_bipush_100, dX8_commonDivisor_13, am_dx_if_icmp_ge, dX8_commonDivisor_16, am_dx_lload_6, am_ld_6, dX8_commonDivisor_18, am_dx_lconst_0, dX8_commonDivisor_19, am_dx_lcmp, dX8_commonDivisor_20, am_dx_ifCond_eq, dX8_commonDivisor_23, am_dx_lload_4, am_ld_4, dX8_commonDivisor_25, dX8_commonDivisor_27, am_dx_lrem, dX8_commonDivisor_28, am_dx_lstore_9, am_set_9, am_st2_9, am_lnl_10, am_set_10, dX8_commonDivisor_30, dX8_commonDivisor_32, dX8_commonDivisor_34, am_dx_lload_9, am_ld_9, dX8_commonDivisor_36, dX8_commonDivisor_38, am_dx_iinc_8_1, dX8_commonDivisor_41, am_dx_goto, dX8_commonDivisor_44, dX8_commonDivisor_46, am_dx_lreturn, am_kd_0, q6, am_lc_eq0]
      · have ih := ih (i + 1) (by omega) y (x - x / y * y) (some (.long (x - x / y * y)))
        rw [gc_s e x y c]
        have re : am_Re GX8_commonDivisor cX8_commonDivisor (9, [some (.long a0), none, some (.long b0), none, some (.long x), none, some (.long y), none, some (.int (nI i)), v, none], [], h) (9, [some (.long a0), none, some (.long b0), none, some (.long y), none, some (.long (x - x / y * y)), none, some (.int (nI (i + 1))), some (.long (x - x / y * y)), none], [], h) := by
          refine am_Re_go (sp := [9]) 40 ?_
          simp only [am_go_s, am_bd_none, am_bd_rt, am_bd_nx, am_bd_ite, am_1i_c, am_2i_c, am_1l_c, am_2l_c, am_li_c, am_1r_c, am_ri_c, am_rii_c, am_ril_c, am_vi_c, am_vl_c, am_vr_c, am_ob_c, am_ob_n, am_ob_ite, am_kk_i, am_kk_r, am_kk_l, am_kk_n, am_ui_1, am_ui_2, am_ul_1, am_ul_2, am_b0, am_tl_s, am_tl_n, am_jp, am_ic, am_ct_n, am_ct_c, am_10, am_01, am_b1, am_nn, or_true, or_false, true_or, false_or, Int32.reduceLT, Int32.reduceLE, Int32.reduceAdd, Int32.reduceSub, not_true_eq_false, not_false_eq_true, Nat.reduceAdd, Int.reduceAdd, Int.reduceNeg, Int.reduceLE, Int.reduceSub, Int.reduceToNat, if_true, if_false, ite_true, ite_false, Bool.or_false, Bool.false_or, Bool.or_true, Bool.true_or, Nat.reduceBEq, Nat.reduceEqDiff, reduceIte, eq_self, false_and, and_false, true_and, and_true, Bool.false_eq_true, Bool.true_eq_false, reduceCtorEq, dX8_commonDivisor_0, am_dx_lload_n_0, am_ld_0, dX8_commonDivisor_1, am_dx_lstore_4, am_set_4, am_ld_3, am_set_3, am_st2_4, am_lnl_5, am_set_5, dX8_commonDivisor_3, am_dx_lload_n_2, am_ld_2, dX8_commonDivisor_4, am_dx_lstore_6, am_set_6, am_ld_5, am_st2_6, am_lnl_7, am_set_7, dX8_commonDivisor_6, am_dx_iconst_0, dX8_commonDivisor_7, am_dx_istore_8, am_set_8, am_ld_7, am_st1_8, am_lnl_8, dX8_commonDivisor_9, am_dx_iload_8, am_ld_8, dX8_commonDivisor_11, am_dx_bipush_100, dX8_commonDivisor_13, am_dx_if_icmp_ge, dX8_commonDivisor_16, am_dx_lload_6, am_ld_6, dX8_commonDivisor_18, am_dx_lconst_0, dX8_commonDivisor_19, am_dx_lcmp, dX8_commonDivisor_20, am_dx_ifCond_eq, dX8_commonDivisor_23, am_dx_lload_4, am_ld_4, dX8_commonDivisor_25, dX8_commonDivisor_27, am_dx_lrem, dX8_commonDivisor_28, am_dx_lstore_9, am_set_9, am_st2_9, am_lnl_10, am_set_10, dX8_commonDivisor_30, dX8_commonDivisor_32, dX8_commonDivisor_34, am_dx_lload_9, am_ld_9, dX8_commonDivisor_36, dX8_commonDivisor_38, am_dx_iinc_8_1, dX8_commonDivisor_41, am_dx_goto, dX8_commonDivisor_44, dX8_commonDivisor_46, am_dx_lreturn, am_kd_0, q6, am_lc_eq0, c, nI_1p]
        exact re _ ih
  refine am_run2 [some (.long a0), none, some (.long b0), none, none, none, none, none, none, none, none] rfl rfl rfl ?_
  have re : am_Re GX8_commonDivisor cX8_commonDivisor (0, [some (.long a0), none, some (.long b0), none, none, none, none, none, none, none, none], [], h) (9, [some (.long a0), none, some (.long b0), none, some (.long a0), none, some (.long b0), none, some (.int (nI 0)), none, none], [], h) := by
    refine am_Re_go (sp := [9]) 40 ?_
    simp only [am_go_s, am_bd_none, am_bd_rt, am_bd_nx, am_bd_ite, am_1i_c, am_2i_c, am_1l_c, am_2l_c, am_li_c, am_1r_c, am_ri_c, am_rii_c, am_ril_c, am_vi_c, am_vl_c, am_vr_c, am_ob_c, am_ob_n, am_ob_ite, am_kk_i, am_kk_r, am_kk_l, am_kk_n, am_ui_1, am_ui_2, am_ul_1, am_ul_2, am_b0, am_tl_s, am_tl_n, am_jp, am_ic, am_ct_n, am_ct_c, am_10, am_01, am_b1, am_nn, or_true, or_false, true_or, false_or, Int32.reduceLT, Int32.reduceLE, Int32.reduceAdd, Int32.reduceSub, not_true_eq_false, not_false_eq_true, Nat.reduceAdd, Int.reduceAdd, Int.reduceNeg, Int.reduceLE, Int.reduceSub, Int.reduceToNat, if_true, if_false, ite_true, ite_false, Bool.or_false, Bool.false_or, Bool.or_true, Bool.true_or, Nat.reduceBEq, Nat.reduceEqDiff, reduceIte, eq_self, false_and, and_false, true_and, and_true, Bool.false_eq_true, Bool.true_eq_false, reduceCtorEq, dX8_commonDivisor_0, am_dx_lload_n_0, am_ld_0, dX8_commonDivisor_1, am_dx_lstore_4, am_set_4, am_ld_3, am_set_3, am_st2_4, am_lnl_5, am_set_5, dX8_commonDivisor_3, am_dx_lload_n_2, am_ld_2, dX8_commonDivisor_4, am_dx_lstore_6, am_set_6, am_ld_5, am_st2_6, am_lnl_7, am_set_7, dX8_commonDivisor_6, am_dx_iconst_0, dX8_commonDivisor_7, am_dx_istore_8, am_set_8, am_ld_7, am_st1_8, am_lnl_8, dX8_commonDivisor_9, am_dx_iload_8, am_ld_8, dX8_commonDivisor_11, am_dx_bipush_100, dX8_commonDivisor_13, am_dx_if_icmp_ge, dX8_commonDivisor_16, am_dx_lload_6, am_ld_6, dX8_commonDivisor_18, am_dx_lconst_0, dX8_commonDivisor_19, am_dx_lcmp, dX8_commonDivisor_20, am_dx_ifCond_eq, dX8_commonDivisor_23, am_dx_lload_4, am_ld_4, dX8_commonDivisor_25, dX8_commonDivisor_27, am_dx_lrem, dX8_commonDivisor_28, am_dx_lstore_9, am_set_9, am_st2_9, am_lnl_10, am_set_10, dX8_commonDivisor_30, dX8_commonDivisor_32, dX8_commonDivisor_34, am_dx_lload_9, am_ld_9, dX8_commonDivisor_36, dX8_commonDivisor_38, am_dx_iinc_8_1, dX8_commonDivisor_41, am_dx_goto, dX8_commonDivisor_44, dX8_commonDivisor_46, am_dx_lreturn, am_kd_0, nI_0]
  exact re _ (key 100 0 (by omega) a0 b0 none)
