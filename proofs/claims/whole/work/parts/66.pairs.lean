/-! the pairs that a fit is made of -/
def pml (M : pm_M) : Nat → List (Nat × Nat)
  | 0 => []
  | a + 1 => pml M a ++ (M a).toList.map (fun k => (a, k))
theorem pml_len (M : pm_M) (a : Nat) : (pml M a).length = pm_c M a := by
  induction a with
  | zero => rfl
  | succ a ih =>
    rw [pml, pm_c, List.length_append, ih]
    cases M a <;> simp
theorem pml_n {M : pm_M} {a : Nat} (h : M a = none) : pml M (a + 1) = pml M a := by rw [pml, h]; simp
theorem pml_s {M : pm_M} {a k : Nat} (h : M a = some k) : pml M (a + 1) = pml M a ++ [(a, k)] := by rw [pml, h]; simp
def pr_fr (h k : am_H) : Prop := k.2 = h.2 ∧ (∀ a, a ≠ 77 → a ≠ 87 → a ≠ 88 → k.1 a = h.1 a) ∧ ∀ b, b ≠ 18 → k.1 77 b = h.1 77 b
theorem pr_tr {a b c : am_H} (h1 : pr_fr a b) (h2 : pr_fr b c) : pr_fr a c := ⟨h2.1.trans h1.1, fun z c1 c2 c3 => (h2.2.1 z c1 c2 c3).trans (h1.2.1 z c1 c2 c3), fun z hz => (h2.2.2 z hz).trans (h1.2.2 z hz)⟩
theorem p_s (p : Nat) (hp : p < 2) (n : Nat) (hn : n ≤ 8) (M : pm_M) (hM : ∀ s k, M s = some k → k < 8) (h0 : am_H) (e78 : h0.1 78 0 = nI n) (hr : mr_has h0 p M) (s : Nat) (hs : s < n) (h : am_H) (r : rp_has h (pml M s)) (f : pr_fr h0 h) : ∃ h2, (rp_has h2 (pml M (s + 1)) ∧ pr_fr h0 h2) ∧ am_Re GX9_pairs cX9_pairs (7, [some (.ref 77), some (.int (nI p)), some (.int (nI s))], [], h) (7, [some (.ref 77), some (.int (nI p)), some (.int (nI (s + 1)))], [], h2) := by
  have q5 : h.1 78 0 = nI n := by rw [f.2.1 78 (by omega) (by omega) (by omega)]; exact e78
  have q6 := nIlt' (a := s) (b := n) (by omega) hs
  have x0 : ∀ z : am_S, am_ix 0 3 z = z := am_x3.1
  have hx : ∀ z : am_S, am_ix (nI (8 * p + s)) 16 z = z := fun z => am_ix_c (by omega) (by omega)
  have hcl : (nI (8 * p + s)).toNatClampNeg = 8 * p + s := am_clp (n := 16) (by omega) (by omega)
  have e86 : h.1 86 (8 * p + s) = mv (M s) := by rw [f.2.1 86 (by omega) (by omega) (by omega)]; exact hr s (by omega)
  cases em : M s with
  | none =>
    rw [em] at e86
    have e9 : h.1 86 (8 * p + s) = -9 := e86
    rw [pml_n em]
    refine ⟨h, ⟨r, f⟩, am_Re_go (sp := [7]) 60 ?_⟩
    simp only [am_go_s, am_bd_none, am_bd_rt, am_bd_nx, am_bd_ite, am_1i_c, am_2i_c, am_1l_c, am_2l_c, am_li_c, am_1r_c, am_ri_c, am_rii_c, am_ril_c, am_vi_c, am_vl_c, am_vr_c, am_ob_c, am_ob_n, am_ob_ite, am_kk_i, am_kk_r, am_kk_l, am_kk_n, am_ui_1, am_ui_2, am_ul_1, am_ul_2, am_b0, am_tl_s, am_tl_n, am_jp, am_ic, am_ct_n, am_ct_c, am_10, am_01, am_b1, am_nn, or_true, or_false, true_or, false_or, Int32.reduceLT, Int32.reduceLE, Int32.reduceAdd, Int32.reduceSub, not_true_eq_false, not_false_eq_true, Nat.reduceAdd, Int.reduceAdd, Int.reduceNeg, Int.reduceLE, Int.reduceSub, Int.reduceToNat, if_true, if_false, ite_true, ite_false, Bool.or_false, Bool.false_or, Bool.or_true, Bool.true_or, Nat.reduceBEq, Nat.reduceEqDiff, reduceIte, eq_self, false_and, and_false, true_and, and_true, Bool.false_eq_true, Bool.true_eq_false, reduceCtorEq, dX9_pairs_0, am_dx_aload_n_0, am_ld_0, dX9_pairs_1, am_dx_iconst_0, dX9_pairs_2, am_dx_putfield, dX9_pairs_5, dX9_pairs_6, am_dx_istore_n_2, am_set_2, am_ld_1, am_set_1, am_st1_2, am_lnl_2, dX9_pairs_7, am_dx_iload_n_2, am_ld_2, dX9_pairs_8, dX9_pairs_9, am_dx_getfield, dX9_pairs_12, dX9_pairs_13, am_dx_iaload, dX9_pairs_14, am_dx_if_icmp_ge, dX9_pairs_17, dX9_pairs_18, dX9_pairs_21, am_dx_bipush_8, dX9_pairs_23, am_dx_iload_n_1, dX9_pairs_24, am_dx_imul, dX9_pairs_25, dX9_pairs_26, am_dx_iadd, dX9_pairs_27, dX9_pairs_28, am_dx_bipush_m9, dX9_pairs_30, am_dx_if_icmp_eq, dX9_pairs_33, dX9_pairs_34, dX9_pairs_37, dX9_pairs_38, dX9_pairs_41, dX9_pairs_42, am_dx_iastore, dX9_pairs_43, dX9_pairs_44, dX9_pairs_47, dX9_pairs_48, dX9_pairs_51, dX9_pairs_52, dX9_pairs_55, dX9_pairs_57, dX9_pairs_58, dX9_pairs_59, dX9_pairs_60, dX9_pairs_61, dX9_pairs_62, dX9_pairs_63, dX9_pairs_64, am_dx_dup_i, am_dx_dup_r, dX9_pairs_65, dX9_pairs_68, am_dx_iconst_1, dX9_pairs_69, dX9_pairs_70, dX9_pairs_73, am_dx_iinc_2_1, dX9_pairs_76, am_dx_goto, dX9_pairs_79, dX9_pairs_80, dX9_pairs_81, dX9_pairs_82, dX9_pairs_83, dX9_pairs_84, am_dx_invokevirtual, dX9_pairs_87, am_dx_return, lX9_pairs_221, am_fr_9_18, am_fw_9_18, lX9_pairs_7, am_fr_9_0, lX9_pairs_35, am_fr_9_17, lX9_pairs_38, am_fr_9_26, lX9_pairs_41, am_fr_9_27, lX9_pairs_228, am_cV_2, am_l0, am_l1, am_l2, am_l3, am_l4, am_kd_77, am_gr_77_0, am_kd_78, am_gr_77_17, am_kd_86, am_gr_77_26, am_kd_87, am_gr_77_27, am_kd_88, q5, q6, x0, am_c0, hx, hcl, am_8, e9, nI_1p]
  | some k =>
    have hk := hM s k em
    rw [em] at e86
    have e9 : h.1 86 (8 * p + s) = nI k := e86
    have n9 := mv_9 (k := k) (by omega)
    rw [pml_s em]
    have ll : (pml M s).length < 8 := by
      rw [pml_len]
      have := pm_c_le M s
      omega
    generalize pml M s = P at r ll
    obtain ⟨r0, r1⟩ := r
    have hy : ∀ z : am_S, am_ix (nI P.length) 8 z = z := fun z => am_ix_c ll (by omega)
    have hcm := am_clp ll (by omega)
    generalize hc : P.length = c at *
    refine ⟨am_ui (am_ui (am_ui h 87 c (nI s)) 88 c (nI k)) 77 18 (nI (c + 1)), ⟨⟨?_, ?_⟩, pr_tr f ⟨rfl, fun a c1 c2 c3 => ?_, fun b hb => ?_⟩⟩, am_Re_go (sp := [7]) 60 ?_⟩
    · rw [List.length_append, hc]
      ((try simp only [am_ui_1, am_ui_2, true_and, and_true, and_self, if_true, reduceIte]); (repeat first | rw [if_neg (by omega)] | rw [if_pos (by omega)]); try rfl)
    · intro i a e
      rw [List.getElem?_append] at e
      split at e
      · obtain ⟨g1, g2, g3⟩ := r1 i a e
        refine ⟨?_, ?_, g3⟩
        · rw [← g1]; ((try simp only [am_ui_1, am_ui_2, true_and, and_true, and_self, if_true, reduceIte]); (repeat first | rw [if_neg (by omega)] | rw [if_pos (by omega)]); try rfl)
        · rw [← g2]; ((try simp only [am_ui_1, am_ui_2, true_and, and_true, and_self, if_true, reduceIte]); (repeat first | rw [if_neg (by omega)] | rw [if_pos (by omega)]); try rfl)
      · have ee : i = c ∧ (s, k) = a := by
          rw [List.getElem?_cons] at e
          split at e
          · exact ⟨by omega, Option.some.inj e⟩
          · simp at e
        obtain ⟨rfl, rfl⟩ := ee
        exact ⟨by ((try simp only [am_ui_1, am_ui_2, true_and, and_true, and_self, if_true, reduceIte]); (repeat first | rw [if_neg (by omega)] | rw [if_pos (by omega)]); try rfl), by ((try simp only [am_ui_1, am_ui_2, true_and, and_true, and_self, if_true, reduceIte]); (repeat first | rw [if_neg (by omega)] | rw [if_pos (by omega)]); try rfl), by omega, hk⟩
    · funext z
      ((try simp only [am_ui_1, am_ui_2, true_and, and_true, and_self, if_true, reduceIte]); (repeat first | rw [if_neg (by omega)] | rw [if_pos (by omega)]); try rfl)
    · ((try simp only [am_ui_1, am_ui_2, true_and, and_true, and_self, if_true, reduceIte]); (repeat first | rw [if_neg (by omega)] | rw [if_pos (by omega)]); try rfl)
    · simp only [am_go_s, am_bd_none, am_bd_rt, am_bd_nx, am_bd_ite, am_1i_c, am_2i_c, am_1l_c, am_2l_c, am_li_c, am_1r_c, am_ri_c, am_rii_c, am_ril_c, am_vi_c, am_vl_c, am_vr_c, am_ob_c, am_ob_n, am_ob_ite, am_kk_i, am_kk_r, am_kk_l, am_kk_n, am_ui_1, am_ui_2, am_ul_1, am_ul_2, am_b0, am_tl_s, am_tl_n, am_jp, am_ic, am_ct_n, am_ct_c, am_10, am_01, am_b1, am_nn, or_true, or_false, true_or, false_or, Int32.reduceLT, Int32.reduceLE, Int32.reduceAdd, Int32.reduceSub, not_true_eq_false, not_false_eq_true, Nat.reduceAdd, Int.reduceAdd, Int.reduceNeg, Int.reduceLE, Int.reduceSub, Int.reduceToNat, if_true, if_false, ite_true, ite_false, Bool.or_false, Bool.false_or, Bool.or_true, Bool.true_or, Nat.reduceBEq, Nat.reduceEqDiff, reduceIte, eq_self, false_and, and_false, true_and, and_true, Bool.false_eq_true, Bool.true_eq_false, reduceCtorEq, dX9_pairs_0, am_dx_aload_n_0, am_ld_0, dX9_pairs_1, am_dx_iconst_0, dX9_pairs_2, am_dx_putfield, dX9_pairs_5, dX9_pairs_6, am_dx_istore_n_2, am_set_2, am_ld_1, am_set_1, am_st1_2, am_lnl_2, dX9_pairs_7, am_dx_iload_n_2, am_ld_2, dX9_pairs_8, dX9_pairs_9, am_dx_getfield, dX9_pairs_12, dX9_pairs_13, am_dx_iaload, dX9_pairs_14, am_dx_if_icmp_ge, dX9_pairs_17, dX9_pairs_18, dX9_pairs_21, am_dx_bipush_8, dX9_pairs_23, am_dx_iload_n_1, dX9_pairs_24, am_dx_imul, dX9_pairs_25, dX9_pairs_26, am_dx_iadd, dX9_pairs_27, dX9_pairs_28, am_dx_bipush_m9, dX9_pairs_30, am_dx_if_icmp_eq, dX9_pairs_33, dX9_pairs_34, dX9_pairs_37, dX9_pairs_38, dX9_pairs_41, dX9_pairs_42, am_dx_iastore, dX9_pairs_43, dX9_pairs_44, dX9_pairs_47, dX9_pairs_48, dX9_pairs_51, dX9_pairs_52, dX9_pairs_55, dX9_pairs_57, dX9_pairs_58, dX9_pairs_59, dX9_pairs_60, dX9_pairs_61, dX9_pairs_62, dX9_pairs_63, dX9_pairs_64, am_dx_dup_i, am_dx_dup_r, dX9_pairs_65, dX9_pairs_68, am_dx_iconst_1, dX9_pairs_69, dX9_pairs_70, dX9_pairs_73, am_dx_iinc_2_1, dX9_pairs_76, am_dx_goto, dX9_pairs_79, dX9_pairs_80, dX9_pairs_81, dX9_pairs_82, dX9_pairs_83, dX9_pairs_84, am_dx_invokevirtual, dX9_pairs_87, am_dx_return, lX9_pairs_221, am_fr_9_18, am_fw_9_18, lX9_pairs_7, am_fr_9_0, lX9_pairs_35, am_fr_9_17, lX9_pairs_38, am_fr_9_26, lX9_pairs_41, am_fr_9_27, lX9_pairs_228, am_cV_2, am_l0, am_l1, am_l2, am_l3, am_l4, am_kd_77, am_gr_77_0, am_kd_78, am_gr_77_17, am_kd_86, am_gr_77_26, am_kd_87, am_gr_77_27, am_kd_88, q5, q6, x0, am_c0, hx, hcl, hy, hcm, r0, am_8, e9, n9, nI_1p]
theorem m_X9_pairs (p : Nat) (hp : p < 2) (n : Nat) (hn : n ≤ 8) (M : pm_M) (hM : ∀ s k, M s = some k → k < 8) (h : am_H) (e78 : h.1 78 0 = nI n) (hr : mr_has h p M) : ∃ k, fX9_pairs [.ref 77, .int (nI p)] h = some (none, k) ∧ rt_has k (pm_c M n) (ft_s ((pml M n).map (rp_q h 0 (1 + p)))) (ft_d ((pml M n).map (rp_q h 0 (1 + p)))) ∧ rp_has k (pml M n) ∧ k.1 = k.1 ∧ (∀ a, a ≠ 77 → a ≠ 87 → a ≠ 88 → k.1 a = h.1 a) ∧ (∀ b, b ≠ 18 → k.1 77 b = h.1 77 b) ∧ ∀ a b, ¬ (a = 77 ∧ 19 ≤ b ∧ b ≤ 25) → k.2 a b = h.2 a b := by
  have r0 : am_Re GX9_pairs cX9_pairs (0, [some (.ref 77), some (.int (nI p)), none], [], h) (7, [some (.ref 77), some (.int (nI p)), some (.int (nI 0))], [], am_ui h 77 18 0) := by
    refine am_Re_go (sp := [7]) 40 ?_
    simp only [am_go_s, am_bd_none, am_bd_rt, am_bd_nx, am_bd_ite, am_1i_c, am_2i_c, am_1l_c, am_2l_c, am_li_c, am_1r_c, am_ri_c, am_rii_c, am_ril_c, am_vi_c, am_vl_c, am_vr_c, am_ob_c, am_ob_n, am_ob_ite, am_kk_i, am_kk_r, am_kk_l, am_kk_n, am_ui_1, am_ui_2, am_ul_1, am_ul_2, am_b0, am_tl_s, am_tl_n, am_jp, am_ic, am_ct_n, am_ct_c, am_10, am_01, am_b1, am_nn, or_true, or_false, true_or, false_or, Int32.reduceLT, Int32.reduceLE, Int32.reduceAdd, Int32.reduceSub, not_true_eq_false, not_false_eq_true, Nat.reduceAdd, Int.reduceAdd, Int.reduceNeg, Int.reduceLE, Int.reduceSub, Int.reduceToNat, if_true, if_false, ite_true, ite_false, Bool.or_false, Bool.false_or, Bool.or_true, Bool.true_or, Nat.reduceBEq, Nat.reduceEqDiff, reduceIte, eq_self, false_and, and_false, true_and, and_true, Bool.false_eq_true, Bool.true_eq_false, reduceCtorEq, dX9_pairs_0, am_dx_aload_n_0, am_ld_0, dX9_pairs_1, am_dx_iconst_0, dX9_pairs_2, am_dx_putfield, dX9_pairs_5, dX9_pairs_6, am_dx_istore_n_2, am_set_2, am_ld_1, am_set_1, am_st1_2, am_lnl_2, dX9_pairs_7, am_dx_iload_n_2, am_ld_2, dX9_pairs_8, dX9_pairs_9, am_dx_getfield, dX9_pairs_12, dX9_pairs_13, am_dx_iaload, dX9_pairs_14, am_dx_if_icmp_ge, dX9_pairs_17, dX9_pairs_18, dX9_pairs_21, am_dx_bipush_8, dX9_pairs_23, am_dx_iload_n_1, dX9_pairs_24, am_dx_imul, dX9_pairs_25, dX9_pairs_26, am_dx_iadd, dX9_pairs_27, dX9_pairs_28, am_dx_bipush_m9, dX9_pairs_30, am_dx_if_icmp_eq, dX9_pairs_33, dX9_pairs_34, dX9_pairs_37, dX9_pairs_38, dX9_pairs_41, dX9_pairs_42, am_dx_iastore, dX9_pairs_43, dX9_pairs_44, dX9_pairs_47, dX9_pairs_48, dX9_pairs_51, dX9_pairs_52, dX9_pairs_55, dX9_pairs_57, dX9_pairs_58, dX9_pairs_59, dX9_pairs_60, dX9_pairs_61, dX9_pairs_62, dX9_pairs_63, dX9_pairs_64, am_dx_dup_i, am_dx_dup_r, dX9_pairs_65, dX9_pairs_68, am_dx_iconst_1, dX9_pairs_69, dX9_pairs_70, dX9_pairs_73, am_dx_iinc_2_1, dX9_pairs_76, am_dx_goto, dX9_pairs_79, dX9_pairs_80, dX9_pairs_81, dX9_pairs_82, dX9_pairs_83, dX9_pairs_84, am_dx_invokevirtual, dX9_pairs_87, am_dx_return, lX9_pairs_221, am_fr_9_18, am_fw_9_18, lX9_pairs_7, am_fr_9_0, lX9_pairs_35, am_fr_9_17, lX9_pairs_38, am_fr_9_26, lX9_pairs_41, am_fr_9_27, lX9_pairs_228, am_cV_2, am_l0, am_l1, am_l2, am_l3, am_l4, am_kd_77, am_gr_77_0, am_kd_78, am_gr_77_17, am_kd_86, am_gr_77_26, am_kd_87, am_gr_77_27, am_kd_88, nI_0]
  have f0 : pr_fr h (am_ui h 77 18 0) := by
    refine ⟨rfl, fun a c1 c2 c3 => ?_, fun b hb => ?_⟩
    · funext z
      ((try simp only [am_ui_1, am_ui_2, true_and, and_true, and_self, if_true, reduceIte]); (repeat first | rw [if_neg (by omega)] | rw [if_pos (by omega)]); try rfl)
    · ((try simp only [am_ui_1, am_ui_2, true_and, and_true, and_self, if_true, reduceIte]); (repeat first | rw [if_neg (by omega)] | rw [if_pos (by omega)]); try rfl)
  have s0 : rp_has (am_ui h 77 18 0) (pml M 0) := by
    refine ⟨?_, fun i a e => ?_⟩
    · rw [show (pml M 0).length = 0 from rfl]
      ((try simp only [am_ui_1, am_ui_2, true_and, and_true, and_self, if_true, reduceIte]); (repeat first | rw [if_neg (by omega)] | rw [if_pos (by omega)]); try rfl)
    · simp [pml] at e
  obtain ⟨h2, ⟨i1, i2⟩, r1⟩ := am_loopS (fun s h => (7, [some (.ref 77), some (.int (nI p)), some (.int (nI s))], [], h)) (fun s k => rp_has k (pml M s) ∧ pr_fr h k) 0 n (by omega) (fun s _ hs k hI => p_s p hp n hn M hM h e78 hr s hs k hI.1 hI.2) (am_ui h 77 18 0) ⟨s0, f0⟩
  have ll : (pml M n).length ≤ 8 := by
    rw [pml_len]
    have := pm_c_le M n
    omega
  obtain ⟨h3, k1, k2, k3, k4⟩ := m_X9_findFit 0 (1 + p) (by omega) (by omega) (pml M n) ll h2 i1
  have eq : rp_q h2 0 (1 + p) = rp_q h 0 (1 + p) := by
    funext a
    unfold rp_q
    rw [i2.2.1 79 (by omega) (by omega) (by omega), i2.2.1 80 (by omega) (by omega) (by omega)]
  rw [eq] at k2 k3
  have k1' : fX9_findFit [.ref 77, .int 0, .int (nI (1 + p))] h2 = some (none, h3) := k1
  refine ⟨h3, am_run2 _ rfl rfl rfl (r0 _ (r1 _ ?_)), ⟨?_, k2.1, k2.2.1, k2.2.2.1, k2.2.2.2, k3.1, k3.2.1, k3.2.2⟩, ?_, rfl, fun a c1 c2 c3 => ?_, fun b hb => ?_, fun a b hab => ?_⟩
  · have q5 : h2.1 78 0 = nI n := by rw [i2.2.1 78 (by omega) (by omega) (by omega)]; exact e78
    have q6 := nIle' (a := n) (b := n) (by omega) (by omega)
    have x0 : ∀ z : am_S, am_ix 0 3 z = z := am_x3.1
    refine am_Big_end (sp := []) 40 ?_
    simp only [am_go_s, am_bd_none, am_bd_rt, am_bd_nx, am_bd_ite, am_1i_c, am_2i_c, am_1l_c, am_2l_c, am_li_c, am_1r_c, am_ri_c, am_rii_c, am_ril_c, am_vi_c, am_vl_c, am_vr_c, am_ob_c, am_ob_n, am_ob_ite, am_kk_i, am_kk_r, am_kk_l, am_kk_n, am_ui_1, am_ui_2, am_ul_1, am_ul_2, am_b0, am_tl_s, am_tl_n, am_jp, am_ic, am_ct_n, am_ct_c, am_10, am_01, am_b1, am_nn, or_true, or_false, true_or, false_or, Int32.reduceLT, Int32.reduceLE, Int32.reduceAdd, Int32.reduceSub, not_true_eq_false, not_false_eq_true, Nat.reduceAdd, Int.reduceAdd, Int.reduceNeg, Int.reduceLE, Int.reduceSub, Int.reduceToNat, if_true, if_false, ite_true, ite_false, Bool.or_false, Bool.false_or, Bool.or_true, Bool.true_or, Nat.reduceBEq, Nat.reduceEqDiff, reduceIte, eq_self, false_and, and_false, true_and, and_true, Bool.false_eq_true, Bool.true_eq_false, reduceCtorEq, dX9_pairs_0, am_dx_aload_n_0, am_ld_0, dX9_pairs_1, am_dx_iconst_0, dX9_pairs_2, am_dx_putfield, dX9_pairs_5, dX9_pairs_6, am_dx_istore_n_2, am_set_2, am_ld_1, am_set_1, am_st1_2, am_lnl_2, dX9_pairs_7, am_dx_iload_n_2, am_ld_2, dX9_pairs_8, dX9_pairs_9, am_dx_getfield, dX9_pairs_12, dX9_pairs_13, am_dx_iaload, dX9_pairs_14, am_dx_if_icmp_ge, dX9_pairs_17, dX9_pairs_18, dX9_pairs_21, am_dx_bipush_8, dX9_pairs_23, am_dx_iload_n_1, dX9_pairs_24, am_dx_imul, dX9_pairs_25, dX9_pairs_26, am_dx_iadd, dX9_pairs_27, dX9_pairs_28, am_dx_bipush_m9, dX9_pairs_30, am_dx_if_icmp_eq, dX9_pairs_33, dX9_pairs_34, dX9_pairs_37, dX9_pairs_38, dX9_pairs_41, dX9_pairs_42, am_dx_iastore, dX9_pairs_43, dX9_pairs_44, dX9_pairs_47, dX9_pairs_48, dX9_pairs_51, dX9_pairs_52, dX9_pairs_55, dX9_pairs_57, dX9_pairs_58, dX9_pairs_59, dX9_pairs_60, dX9_pairs_61, dX9_pairs_62, dX9_pairs_63, dX9_pairs_64, am_dx_dup_i, am_dx_dup_r, dX9_pairs_65, dX9_pairs_68, am_dx_iconst_1, dX9_pairs_69, dX9_pairs_70, dX9_pairs_73, am_dx_iinc_2_1, dX9_pairs_76, am_dx_goto, dX9_pairs_79, dX9_pairs_80, dX9_pairs_81, dX9_pairs_82, dX9_pairs_83, dX9_pairs_84, am_dx_invokevirtual, dX9_pairs_87, am_dx_return, lX9_pairs_221, am_fr_9_18, am_fw_9_18, lX9_pairs_7, am_fr_9_0, lX9_pairs_35, am_fr_9_17, lX9_pairs_38, am_fr_9_26, lX9_pairs_41, am_fr_9_27, lX9_pairs_228, am_cV_2, am_l0, am_l1, am_l2, am_l3, am_l4, am_kd_77, am_gr_77_0, am_kd_78, am_gr_77_17, am_kd_86, am_gr_77_26, am_kd_87, am_gr_77_27, am_kd_88, q5, q6, x0, am_c0, am_1p, k1']
  · rw [k4.1, ← pml_len]
    exact i1.1
  · refine ⟨by rw [k4.1]; exact i1.1, by rw [k4.1]; exact i1.2⟩
  · rw [k4.1, i2.2.1 a c1 c2 c3]
  · rw [k4.1, i2.2.2 b hb]
  · rw [k4.2 a b hab, i2.1]
