/-! pairs: the spec, and the class's addBest -/
abbrev pm_M : Type := Nat → Option Nat
def mv (o : Option Nat) : Int32 := match o with
  | none => -9
  | some k => nI k
def tkn (M : pm_M) (k : Nat) : Prop := ∃ s, s < 8 ∧ M s = some k
def mo (T : Nat → Int32) (b : Option Nat) : Int32 := match b with
  | none => 0
  | some y => T y
def pm_u (T : Nat → Int32) (M : pm_M) (b : Option Nat) (x : Nat) : Prop := M (x / 8) = none ∧ ¬ tkn M (x % 8) ∧ mo T b < T x
noncomputable def bst (T : Nat → Int32) (M : pm_M) : Nat → Option Nat
  | 0 => none
  | x + 1 => @ite _ (pm_u T M (bst T M x) x) (Classical.propDecidable _) (some x) (bst T M x)
theorem bst_p {T : Nat → Int32} {M : pm_M} {x : Nat} (h : pm_u T M (bst T M x) x) : bst T M (x + 1) = some x := by rw [bst, if_pos h]
theorem bst_n {T : Nat → Int32} {M : pm_M} {x : Nat} (h : ¬ pm_u T M (bst T M x) x) : bst T M (x + 1) = bst T M x := by rw [bst, if_neg h]
theorem bst_in {T : Nat → Int32} {M : pm_M} {x y : Nat} (h : bst T M x = some y) : y < x ∧ 0 < T y ∧ M (y / 8) = none ∧ ¬ tkn M (y % 8) := by
  induction x generalizing y with
  | zero => simp [bst] at h
  | succ x ih =>
    by_cases c : pm_u T M (bst T M x) x
    · rw [bst_p c] at h
      cases h
      refine ⟨by omega, ?_, c.1, c.2.1⟩
      have c3 := c.2.2
      cases e : bst T M x with
      | none => rw [e] at c3; exact c3
      | some z =>
        rw [e] at c3
        have := (ih e).2.1
        unfold mo at c3
        dsimp only at c3
        rw [Int32.lt_iff_toInt_lt] at *
        omega
    · rw [bst_n c] at h
      have := ih h
      exact ⟨by omega, this.2⟩
theorem bst_z {T : Nat → Int32} {M : pm_M} {x : Nat} (h : T x = 0) : bst T M (x + 1) = bst T M x := by
  apply bst_n
  intro c
  have c3 := c.2.2
  rw [h] at c3
  cases e : bst T M x with
  | none => rw [e] at c3; exact absurd c3 (show ¬ (0 : Int32) < 0 by decide)
  | some z =>
    rw [e] at c3
    have := (bst_in e).2.1
    unfold mo at c3
    dsimp only at c3
    rw [Int32.lt_iff_toInt_lt] at *
    omega
theorem bst_zs {T : Nat → Int32} {M : pm_M} {x : Nat} (d : Nat) (h : ∀ y, x ≤ y → y < x + d → T y = 0) : bst T M (x + d) = bst T M x := by
  induction d with
  | zero => rfl
  | succ d ih =>
    rw [← Nat.add_assoc, bst_z (h _ (by omega) (by omega))]
    exact ih (fun y h1 h2 => h y h1 (by omega))
/-- the class's row of pairs -/
def pg_has (h : am_H) (p : Nat) (M : pm_M) : Prop := (∀ s, s < 8 → h.1 (3 * p + 58) s = mv (M s)) ∧ ∀ k, k < 8 → (tkn M k → h.1 (3 * p + 59) k = 1) ∧ (¬ tkn M k → h.1 (3 * p + 59) k = 0)
def st_of (b : Option Nat) : Int32 := match b with
  | none => -9
  | some y => nI (y / 8)
def sp_of (b : Option Nat) : Int32 := match b with
  | none => -9
  | some y => nI (y % 8)
theorem pg_q {p : Nat} (hp : p < 2) : am_kd (3 * p + 57) = (4, 3) ∧ am_gr (3 * p + 57) 0 = 3 * p + 58 ∧ am_gr (3 * p + 57) 1 = 3 * p + 59 ∧ am_kd (3 * p + 58) = (20, 8) ∧ am_kd (3 * p + 59) = (22, 8) := by
  rcases (show p = 0 ∨ p = 1 by omega) with rfl | rfl
  · exact ⟨rfl, rfl, rfl, rfl, rfl⟩
  · exact ⟨rfl, rfl, rfl, rfl, rfl⟩
theorem mv_9 {k : Nat} (hk : k < 1000) : ¬ nI k = -9 := by
  intro e
  have := congrArg Int32.toInt e
  rw [nI_toInt (by omega), show (-9 : Int32).toInt = -9 by decide] at this
  omega
theorem m_X4_holds (p : Nat) (hp : p < 2) (s : Nat) (hs : s < 8) (h : am_H) : (h.1 (3 * p + 58) s = -9 → fX4_holds [.ref (3 * p + 57), .int (nI s)] h = some (some (.int 0), h)) ∧ (¬ h.1 (3 * p + 58) s = -9 → fX4_holds [.ref (3 * p + 57), .int (nI s)] h = some (some (.int 1), h)) := by
  obtain ⟨d0, d1, d2, d3, d4⟩ := pg_q hp
  have hx : ∀ z : am_S, am_ix (nI s) 8 z = z := fun z => am_ix_c hs (by omega)
  have hcl := am_clp hs (by omega)
  refine ⟨fun e => ?_, fun e => ?_⟩
  · refine am_run1 40 [some (.ref (3 * p + 57)), some (.int (nI s))] rfl rfl rfl ?_
    simp only [am_go_s, am_bd_none, am_bd_rt, am_bd_nx, am_bd_ite, am_1i_c, am_2i_c, am_1l_c, am_2l_c, am_li_c, am_1r_c, am_ri_c, am_rii_c, am_ril_c, am_vi_c, am_vl_c, am_vr_c, am_ob_c, am_ob_n, am_ob_ite, am_kk_i, am_kk_r, am_kk_l, am_kk_n, am_ui_1, am_ui_2, am_ul_1, am_ul_2, am_b0, am_tl_s, am_tl_n, am_jp, am_ic, am_ct_n, am_ct_c, am_10, am_01, am_b1, am_nn, or_true, or_false, true_or, false_or, Int32.reduceLT, Int32.reduceLE, Int32.reduceAdd, Int32.reduceSub, not_true_eq_false, not_false_eq_true, Nat.reduceAdd, Int.reduceAdd, Int.reduceNeg, Int.reduceLE, Int.reduceSub, Int.reduceToNat, if_true, if_false, ite_true, ite_false, Bool.or_false, Bool.false_or, Bool.or_true, Bool.true_or, Nat.reduceBEq, Nat.reduceEqDiff, reduceIte, eq_self, false_and, and_false, true_and, and_true, Bool.false_eq_true, Bool.true_eq_false, reduceCtorEq, dX4_holds_0, am_dx_aload_n_0, am_ld_0, dX4_holds_1, am_dx_getfield, dX4_holds_4, am_dx_iload_n_1, am_ld_1, dX4_holds_5, am_dx_iaload, dX4_holds_6, am_dx_bipush_m9, dX4_holds_8, am_dx_if_icmp_eq, dX4_holds_11, am_dx_iconst_1, dX4_holds_12, am_dx_goto, dX4_holds_15, am_dx_iconst_0, dX4_holds_16, am_dx_ireturn, lX4_holds_9, am_fr_4_0, d0, d1, d3, hx, hcl, e]
  · refine am_run1 40 [some (.ref (3 * p + 57)), some (.int (nI s))] rfl rfl rfl ?_
    simp only [am_go_s, am_bd_none, am_bd_rt, am_bd_nx, am_bd_ite, am_1i_c, am_2i_c, am_1l_c, am_2l_c, am_li_c, am_1r_c, am_ri_c, am_rii_c, am_ril_c, am_vi_c, am_vl_c, am_vr_c, am_ob_c, am_ob_n, am_ob_ite, am_kk_i, am_kk_r, am_kk_l, am_kk_n, am_ui_1, am_ui_2, am_ul_1, am_ul_2, am_b0, am_tl_s, am_tl_n, am_jp, am_ic, am_ct_n, am_ct_c, am_10, am_01, am_b1, am_nn, or_true, or_false, true_or, false_or, Int32.reduceLT, Int32.reduceLE, Int32.reduceAdd, Int32.reduceSub, not_true_eq_false, not_false_eq_true, Nat.reduceAdd, Int.reduceAdd, Int.reduceNeg, Int.reduceLE, Int.reduceSub, Int.reduceToNat, if_true, if_false, ite_true, ite_false, Bool.or_false, Bool.false_or, Bool.or_true, Bool.true_or, Nat.reduceBEq, Nat.reduceEqDiff, reduceIte, eq_self, false_and, and_false, true_and, and_true, Bool.false_eq_true, Bool.true_eq_false, reduceCtorEq, dX4_holds_0, am_dx_aload_n_0, am_ld_0, dX4_holds_1, am_dx_getfield, dX4_holds_4, am_dx_iload_n_1, am_ld_1, dX4_holds_5, am_dx_iaload, dX4_holds_6, am_dx_bipush_m9, dX4_holds_8, am_dx_if_icmp_eq, dX4_holds_11, am_dx_iconst_1, dX4_holds_12, am_dx_goto, dX4_holds_15, am_dx_iconst_0, dX4_holds_16, am_dx_ireturn, lX4_holds_9, am_fr_4_0, d0, d1, d3, hx, hcl, e]
theorem a_k (p : Nat) (hp : p < 2) (n m : Nat) (hn : n ≤ 8) (hm : m ≤ 8) (T : Nat → Int32) (M : pm_M) (hM : ∀ s k, M s = some k → k < 8) (h : am_H) (hT : ∀ x, x < 64 → h.1 56 x = T x) (hg : pg_has h p M) (s k : Nat) (hs : s < n) (hk : k < m) : am_Re GX4_addBest cX4_addBest (23, [some (.ref (3 * p + 57)), some (.ref 35), some (.int (nI n)), some (.int (nI m)), some (.int (mo T (bst T M (8 * s + k)))), some (.int (st_of (bst T M (8 * s + k)))), some (.int (sp_of (bst T M (8 * s + k)))), some (.int (nI s)), some (.int (nI k))], [], h) (23, [some (.ref (3 * p + 57)), some (.ref 35), some (.int (nI n)), some (.int (nI m)), some (.int (mo T (bst T M (8 * s + (k + 1))))), some (.int (st_of (bst T M (8 * s + (k + 1))))), some (.int (sp_of (bst T M (8 * s + (k + 1))))), some (.int (nI s)), some (.int (nI (k + 1)))], [], h) := by
  obtain ⟨d0, d1, d2, d3, d4⟩ := pg_q hp
  obtain ⟨w1, w2⟩ := m_X4_holds p hp s (by omega) h
  have hy : ∀ z : am_S, am_ix (nI k) 8 z = z := fun z => am_ix_c (show k < 8 by omega) (by omega)
  have hcm := am_clp (show k < 8 by omega) (by omega)
  have o1 := m_X0_of s k (by omega) (by omega) h
  rw [hT _ (by omega)] at o1
  have q6 := nIlt' (a := k) (b := m) (by omega) hk
  have e1 : (8 * s + k) / 8 = s := by omega
  have e2 : (8 * s + k) % 8 = k := by omega
  have gs := hg.1 s (by omega)
  have gk := hg.2 k (by omega)
  rw [← Nat.add_assoc]
  by_cases c1 : M s = none
  · have v1 := w1 (by rw [gs, c1]; rfl)
    by_cases c2 : tkn M k
    · rw [bst_n (fun c => c.2.1 (by rw [e2]; exact c2))]
      have g1 := gk.1 c2
      generalize bst T M (8 * s + k) = b
      refine am_Re_go (sp := [23]) 40 ?_
      simp only [am_go_s, am_bd_none, am_bd_rt, am_bd_nx, am_bd_ite, am_1i_c, am_2i_c, am_1l_c, am_2l_c, am_li_c, am_1r_c, am_ri_c, am_rii_c, am_ril_c, am_vi_c, am_vl_c, am_vr_c, am_ob_c, am_ob_n, am_ob_ite, am_kk_i, am_kk_r, am_kk_l, am_kk_n, am_ui_1, am_ui_2, am_ul_1, am_ul_2, am_b0, am_tl_s, am_tl_n, am_jp, am_ic, am_ct_n, am_ct_c, am_10, am_01, am_b1, am_nn, or_true, or_false, true_or, false_or, Int32.reduceLT, Int32.reduceLE, Int32.reduceAdd, Int32.reduceSub, not_true_eq_false, not_false_eq_true, Nat.reduceAdd, Int.reduceAdd, Int.reduceNeg, Int.reduceLE, Int.reduceSub, Int.reduceToNat, if_true, if_false, ite_true, ite_false, Bool.or_false, Bool.false_or, Bool.or_true, Bool.true_or, Nat.reduceBEq, Nat.reduceEqDiff, reduceIte, eq_self, false_and, and_false, true_and, and_true, Bool.false_eq_true, Bool.true_eq_false, reduceCtorEq, dX4_addBest_0, am_dx_iconst_0, dX4_addBest_1, am_dx_istore_4, am_set_4, am_ld_3, am_set_3, am_st1_4, am_lnl_4, dX4_addBest_3, am_dx_bipush_m9, dX4_addBest_5, am_dx_istore_5, am_set_5, am_ld_4, am_st1_5, am_lnl_5, dX4_addBest_7, dX4_addBest_9, am_dx_istore_6, am_set_6, am_ld_5, am_st1_6, am_lnl_6, dX4_addBest_11, dX4_addBest_12, am_dx_istore_7, am_set_7, am_ld_6, am_st1_7, am_lnl_7, dX4_addBest_14, am_dx_iload_7, am_ld_7, dX4_addBest_16, am_dx_iload_n_2, am_ld_2, dX4_addBest_17, am_dx_if_icmp_ge, dX4_addBest_20, dX4_addBest_21, am_dx_istore_8, am_set_8, am_st1_8, am_lnl_8, dX4_addBest_23, am_dx_iload_8, am_ld_8, dX4_addBest_25, am_dx_iload_n_3, dX4_addBest_26, dX4_addBest_29, am_dx_aload_n_0, am_ld_0, dX4_addBest_30, dX4_addBest_32, am_dx_invokevirtual, dX4_addBest_35, am_dx_ifCond_ne, dX4_addBest_38, dX4_addBest_39, am_dx_getfield, dX4_addBest_42, dX4_addBest_44, am_dx_baload, dX4_addBest_45, dX4_addBest_48, am_dx_aload_n_1, am_ld_1, dX4_addBest_49, dX4_addBest_51, dX4_addBest_53, dX4_addBest_56, am_dx_iload_4, dX4_addBest_58, am_dx_if_icmp_gt, dX4_addBest_61, am_dx_goto, dX4_addBest_64, dX4_addBest_65, dX4_addBest_67, dX4_addBest_69, dX4_addBest_72, dX4_addBest_74, dX4_addBest_76, dX4_addBest_78, dX4_addBest_80, dX4_addBest_82, am_dx_iinc_8_1, dX4_addBest_85, dX4_addBest_88, am_dx_iinc_7_1, dX4_addBest_91, dX4_addBest_94, dX4_addBest_96, dX4_addBest_99, dX4_addBest_100, am_dx_ireturn, dX4_addBest_101, dX4_addBest_102, dX4_addBest_105, am_dx_iload_5, dX4_addBest_107, am_dx_iload_6, dX4_addBest_109, am_dx_iastore, dX4_addBest_110, dX4_addBest_111, dX4_addBest_114, dX4_addBest_116, am_dx_iconst_1, dX4_addBest_117, am_dx_bastore, dX4_addBest_118, dX4_addBest_119, am_dx_dup_i, am_dx_dup_r, dX4_addBest_120, dX4_addBest_123, dX4_addBest_124, am_dx_iadd, dX4_addBest_125, am_dx_putfield, dX4_addBest_128, dX4_addBest_129, lX4_addBest_27, am_cV_1, am_l0, am_l1, am_l2, am_l3, am_l4, lX4_addBest_15, am_fr_4_1, lX4_addBest_31, am_cV_2, lX4_addBest_9, am_fr_4_0, lX4_addBest_19, am_fr_4_2, am_fw_4_2, d0, d1, d2, d3, d4, v1, hy, hcm, g1, q6, nI_1p]
    · have g1 := gk.2 c2
      by_cases c3 : mo T (bst T M (8 * s + k)) < T (8 * s + k)
      · rw [bst_p ⟨by rw [e1]; exact c1, by rw [e2]; exact c2, c3⟩]
        have f1 : mo T (some (8 * s + k)) = T (8 * s + k) := rfl
        have f2 : st_of (some (8 * s + k)) = nI s := by unfold st_of; dsimp only; rw [e1]
        have f3 : sp_of (some (8 * s + k)) = nI k := by unfold sp_of; dsimp only; rw [e2]
        rw [f1, f2, f3]
        generalize bst T M (8 * s + k) = b at c3
        refine am_Re_go (sp := [23]) 40 ?_
        simp only [am_go_s, am_bd_none, am_bd_rt, am_bd_nx, am_bd_ite, am_1i_c, am_2i_c, am_1l_c, am_2l_c, am_li_c, am_1r_c, am_ri_c, am_rii_c, am_ril_c, am_vi_c, am_vl_c, am_vr_c, am_ob_c, am_ob_n, am_ob_ite, am_kk_i, am_kk_r, am_kk_l, am_kk_n, am_ui_1, am_ui_2, am_ul_1, am_ul_2, am_b0, am_tl_s, am_tl_n, am_jp, am_ic, am_ct_n, am_ct_c, am_10, am_01, am_b1, am_nn, or_true, or_false, true_or, false_or, Int32.reduceLT, Int32.reduceLE, Int32.reduceAdd, Int32.reduceSub, not_true_eq_false, not_false_eq_true, Nat.reduceAdd, Int.reduceAdd, Int.reduceNeg, Int.reduceLE, Int.reduceSub, Int.reduceToNat, if_true, if_false, ite_true, ite_false, Bool.or_false, Bool.false_or, Bool.or_true, Bool.true_or, Nat.reduceBEq, Nat.reduceEqDiff, reduceIte, eq_self, false_and, and_false, true_and, and_true, Bool.false_eq_true, Bool.true_eq_false, reduceCtorEq, dX4_addBest_0, am_dx_iconst_0, dX4_addBest_1, am_dx_istore_4, am_set_4, am_ld_3, am_set_3, am_st1_4, am_lnl_4, dX4_addBest_3, am_dx_bipush_m9, dX4_addBest_5, am_dx_istore_5, am_set_5, am_ld_4, am_st1_5, am_lnl_5, dX4_addBest_7, dX4_addBest_9, am_dx_istore_6, am_set_6, am_ld_5, am_st1_6, am_lnl_6, dX4_addBest_11, dX4_addBest_12, am_dx_istore_7, am_set_7, am_ld_6, am_st1_7, am_lnl_7, dX4_addBest_14, am_dx_iload_7, am_ld_7, dX4_addBest_16, am_dx_iload_n_2, am_ld_2, dX4_addBest_17, am_dx_if_icmp_ge, dX4_addBest_20, dX4_addBest_21, am_dx_istore_8, am_set_8, am_st1_8, am_lnl_8, dX4_addBest_23, am_dx_iload_8, am_ld_8, dX4_addBest_25, am_dx_iload_n_3, dX4_addBest_26, dX4_addBest_29, am_dx_aload_n_0, am_ld_0, dX4_addBest_30, dX4_addBest_32, am_dx_invokevirtual, dX4_addBest_35, am_dx_ifCond_ne, dX4_addBest_38, dX4_addBest_39, am_dx_getfield, dX4_addBest_42, dX4_addBest_44, am_dx_baload, dX4_addBest_45, dX4_addBest_48, am_dx_aload_n_1, am_ld_1, dX4_addBest_49, dX4_addBest_51, dX4_addBest_53, dX4_addBest_56, am_dx_iload_4, dX4_addBest_58, am_dx_if_icmp_gt, dX4_addBest_61, am_dx_goto, dX4_addBest_64, dX4_addBest_65, dX4_addBest_67, dX4_addBest_69, dX4_addBest_72, dX4_addBest_74, dX4_addBest_76, dX4_addBest_78, dX4_addBest_80, dX4_addBest_82, am_dx_iinc_8_1, dX4_addBest_85, dX4_addBest_88, am_dx_iinc_7_1, dX4_addBest_91, dX4_addBest_94, dX4_addBest_96, dX4_addBest_99, dX4_addBest_100, am_dx_ireturn, dX4_addBest_101, dX4_addBest_102, dX4_addBest_105, am_dx_iload_5, dX4_addBest_107, am_dx_iload_6, dX4_addBest_109, am_dx_iastore, dX4_addBest_110, dX4_addBest_111, dX4_addBest_114, dX4_addBest_116, am_dx_iconst_1, dX4_addBest_117, am_dx_bastore, dX4_addBest_118, dX4_addBest_119, am_dx_dup_i, am_dx_dup_r, dX4_addBest_120, dX4_addBest_123, dX4_addBest_124, am_dx_iadd, dX4_addBest_125, am_dx_putfield, dX4_addBest_128, dX4_addBest_129, lX4_addBest_27, am_cV_1, am_l0, am_l1, am_l2, am_l3, am_l4, lX4_addBest_15, am_fr_4_1, lX4_addBest_31, am_cV_2, lX4_addBest_9, am_fr_4_0, lX4_addBest_19, am_fr_4_2, am_fw_4_2, d0, d1, d2, d3, d4, v1, hy, hcm, g1, q6, o1, c3, am_kd_35, nI_1p]
      · rw [bst_n (fun c => c3 c.2.2)]
        generalize bst T M (8 * s + k) = b at c3
        refine am_Re_go (sp := [23]) 40 ?_
        simp only [am_go_s, am_bd_none, am_bd_rt, am_bd_nx, am_bd_ite, am_1i_c, am_2i_c, am_1l_c, am_2l_c, am_li_c, am_1r_c, am_ri_c, am_rii_c, am_ril_c, am_vi_c, am_vl_c, am_vr_c, am_ob_c, am_ob_n, am_ob_ite, am_kk_i, am_kk_r, am_kk_l, am_kk_n, am_ui_1, am_ui_2, am_ul_1, am_ul_2, am_b0, am_tl_s, am_tl_n, am_jp, am_ic, am_ct_n, am_ct_c, am_10, am_01, am_b1, am_nn, or_true, or_false, true_or, false_or, Int32.reduceLT, Int32.reduceLE, Int32.reduceAdd, Int32.reduceSub, not_true_eq_false, not_false_eq_true, Nat.reduceAdd, Int.reduceAdd, Int.reduceNeg, Int.reduceLE, Int.reduceSub, Int.reduceToNat, if_true, if_false, ite_true, ite_false, Bool.or_false, Bool.false_or, Bool.or_true, Bool.true_or, Nat.reduceBEq, Nat.reduceEqDiff, reduceIte, eq_self, false_and, and_false, true_and, and_true, Bool.false_eq_true, Bool.true_eq_false, reduceCtorEq, dX4_addBest_0, am_dx_iconst_0, dX4_addBest_1, am_dx_istore_4, am_set_4, am_ld_3, am_set_3, am_st1_4, am_lnl_4, dX4_addBest_3, am_dx_bipush_m9, dX4_addBest_5, am_dx_istore_5, am_set_5, am_ld_4, am_st1_5, am_lnl_5, dX4_addBest_7, dX4_addBest_9, am_dx_istore_6, am_set_6, am_ld_5, am_st1_6, am_lnl_6, dX4_addBest_11, dX4_addBest_12, am_dx_istore_7, am_set_7, am_ld_6, am_st1_7, am_lnl_7, dX4_addBest_14, am_dx_iload_7, am_ld_7, dX4_addBest_16, am_dx_iload_n_2, am_ld_2, dX4_addBest_17, am_dx_if_icmp_ge, dX4_addBest_20, dX4_addBest_21, am_dx_istore_8, am_set_8, am_st1_8, am_lnl_8, dX4_addBest_23, am_dx_iload_8, am_ld_8, dX4_addBest_25, am_dx_iload_n_3, dX4_addBest_26, dX4_addBest_29, am_dx_aload_n_0, am_ld_0, dX4_addBest_30, dX4_addBest_32, am_dx_invokevirtual, dX4_addBest_35, am_dx_ifCond_ne, dX4_addBest_38, dX4_addBest_39, am_dx_getfield, dX4_addBest_42, dX4_addBest_44, am_dx_baload, dX4_addBest_45, dX4_addBest_48, am_dx_aload_n_1, am_ld_1, dX4_addBest_49, dX4_addBest_51, dX4_addBest_53, dX4_addBest_56, am_dx_iload_4, dX4_addBest_58, am_dx_if_icmp_gt, dX4_addBest_61, am_dx_goto, dX4_addBest_64, dX4_addBest_65, dX4_addBest_67, dX4_addBest_69, dX4_addBest_72, dX4_addBest_74, dX4_addBest_76, dX4_addBest_78, dX4_addBest_80, dX4_addBest_82, am_dx_iinc_8_1, dX4_addBest_85, dX4_addBest_88, am_dx_iinc_7_1, dX4_addBest_91, dX4_addBest_94, dX4_addBest_96, dX4_addBest_99, dX4_addBest_100, am_dx_ireturn, dX4_addBest_101, dX4_addBest_102, dX4_addBest_105, am_dx_iload_5, dX4_addBest_107, am_dx_iload_6, dX4_addBest_109, am_dx_iastore, dX4_addBest_110, dX4_addBest_111, dX4_addBest_114, dX4_addBest_116, am_dx_iconst_1, dX4_addBest_117, am_dx_bastore, dX4_addBest_118, dX4_addBest_119, am_dx_dup_i, am_dx_dup_r, dX4_addBest_120, dX4_addBest_123, dX4_addBest_124, am_dx_iadd, dX4_addBest_125, am_dx_putfield, dX4_addBest_128, dX4_addBest_129, lX4_addBest_27, am_cV_1, am_l0, am_l1, am_l2, am_l3, am_l4, lX4_addBest_15, am_fr_4_1, lX4_addBest_31, am_cV_2, lX4_addBest_9, am_fr_4_0, lX4_addBest_19, am_fr_4_2, am_fw_4_2, d0, d1, d2, d3, d4, v1, hy, hcm, g1, q6, o1, c3, am_kd_35, nI_1p]
  · obtain ⟨k2, ek⟩ : ∃ k2, M s = some k2 := by
      cases e : M s with
      | none => exact absurd e c1
      | some k2 => exact ⟨k2, rfl⟩
    have hk2 := hM s k2 ek
    have v1 := w2 (by rw [gs, ek]; exact mv_9 (by omega))
    rw [bst_n (fun c => c1 (by have := c.1; rwa [e1] at this))]
    generalize bst T M (8 * s + k) = b
    refine am_Re_go (sp := [23]) 40 ?_
    simp only [am_go_s, am_bd_none, am_bd_rt, am_bd_nx, am_bd_ite, am_1i_c, am_2i_c, am_1l_c, am_2l_c, am_li_c, am_1r_c, am_ri_c, am_rii_c, am_ril_c, am_vi_c, am_vl_c, am_vr_c, am_ob_c, am_ob_n, am_ob_ite, am_kk_i, am_kk_r, am_kk_l, am_kk_n, am_ui_1, am_ui_2, am_ul_1, am_ul_2, am_b0, am_tl_s, am_tl_n, am_jp, am_ic, am_ct_n, am_ct_c, am_10, am_01, am_b1, am_nn, or_true, or_false, true_or, false_or, Int32.reduceLT, Int32.reduceLE, Int32.reduceAdd, Int32.reduceSub, not_true_eq_false, not_false_eq_true, Nat.reduceAdd, Int.reduceAdd, Int.reduceNeg, Int.reduceLE, Int.reduceSub, Int.reduceToNat, if_true, if_false, ite_true, ite_false, Bool.or_false, Bool.false_or, Bool.or_true, Bool.true_or, Nat.reduceBEq, Nat.reduceEqDiff, reduceIte, eq_self, false_and, and_false, true_and, and_true, Bool.false_eq_true, Bool.true_eq_false, reduceCtorEq, dX4_addBest_0, am_dx_iconst_0, dX4_addBest_1, am_dx_istore_4, am_set_4, am_ld_3, am_set_3, am_st1_4, am_lnl_4, dX4_addBest_3, am_dx_bipush_m9, dX4_addBest_5, am_dx_istore_5, am_set_5, am_ld_4, am_st1_5, am_lnl_5, dX4_addBest_7, dX4_addBest_9, am_dx_istore_6, am_set_6, am_ld_5, am_st1_6, am_lnl_6, dX4_addBest_11, dX4_addBest_12, am_dx_istore_7, am_set_7, am_ld_6, am_st1_7, am_lnl_7, dX4_addBest_14, am_dx_iload_7, am_ld_7, dX4_addBest_16, am_dx_iload_n_2, am_ld_2, dX4_addBest_17, am_dx_if_icmp_ge, dX4_addBest_20, dX4_addBest_21, am_dx_istore_8, am_set_8, am_st1_8, am_lnl_8, dX4_addBest_23, am_dx_iload_8, am_ld_8, dX4_addBest_25, am_dx_iload_n_3, dX4_addBest_26, dX4_addBest_29, am_dx_aload_n_0, am_ld_0, dX4_addBest_30, dX4_addBest_32, am_dx_invokevirtual, dX4_addBest_35, am_dx_ifCond_ne, dX4_addBest_38, dX4_addBest_39, am_dx_getfield, dX4_addBest_42, dX4_addBest_44, am_dx_baload, dX4_addBest_45, dX4_addBest_48, am_dx_aload_n_1, am_ld_1, dX4_addBest_49, dX4_addBest_51, dX4_addBest_53, dX4_addBest_56, am_dx_iload_4, dX4_addBest_58, am_dx_if_icmp_gt, dX4_addBest_61, am_dx_goto, dX4_addBest_64, dX4_addBest_65, dX4_addBest_67, dX4_addBest_69, dX4_addBest_72, dX4_addBest_74, dX4_addBest_76, dX4_addBest_78, dX4_addBest_80, dX4_addBest_82, am_dx_iinc_8_1, dX4_addBest_85, dX4_addBest_88, am_dx_iinc_7_1, dX4_addBest_91, dX4_addBest_94, dX4_addBest_96, dX4_addBest_99, dX4_addBest_100, am_dx_ireturn, dX4_addBest_101, dX4_addBest_102, dX4_addBest_105, am_dx_iload_5, dX4_addBest_107, am_dx_iload_6, dX4_addBest_109, am_dx_iastore, dX4_addBest_110, dX4_addBest_111, dX4_addBest_114, dX4_addBest_116, am_dx_iconst_1, dX4_addBest_117, am_dx_bastore, dX4_addBest_118, dX4_addBest_119, am_dx_dup_i, am_dx_dup_r, dX4_addBest_120, dX4_addBest_123, dX4_addBest_124, am_dx_iadd, dX4_addBest_125, am_dx_putfield, dX4_addBest_128, dX4_addBest_129, lX4_addBest_27, am_cV_1, am_l0, am_l1, am_l2, am_l3, am_l4, lX4_addBest_15, am_fr_4_1, lX4_addBest_31, am_cV_2, lX4_addBest_9, am_fr_4_0, lX4_addBest_19, am_fr_4_2, am_fw_4_2, d0, d1, d2, d3, d4, v1, q6, nI_1p]
