/-! Movers.start, squareTo, append -/
theorem m_X3_start (h : am_H) (m : Nat) (hm : m ≤ 8) (Q : List ft_q) (r : ft_has h Q) (z : ab_has h (ft_d Q)) (ho : fo Q) (e5 : h.1 5 3 = nI m) (M0 M1 : pm_M) (g0 : pg_has h 0 M0) (g1 : pg_has h 1 M1) : ∃ k, fX3_start [.ref 69, .ref 5, .ref 64, .ref 57, .ref 60] h = some (none, k) ∧ mc_has k M0 M1 [] ∧ ml_has k Q (h.1 6) (h.1 7) m ∧ mo_fr h k := by
  have r0 : am_Re GX3_start cX3_start (0, [some (.ref 69), some (.ref 5), some (.ref 64), some (.ref 57), some (.ref 60), none], [], h) (8, [some (.ref 69), some (.ref 5), some (.ref 64), some (.ref 57), some (.ref 60), some (.int (nI 0))], [], am_ui h 69 3 0) := by
    refine am_Re_go (sp := [8]) 40 ?_
    simp only [am_go_s, am_bd_none, am_bd_rt, am_bd_nx, am_bd_ite, am_1i_c, am_2i_c, am_1l_c, am_2l_c, am_li_c, am_1r_c, am_ri_c, am_rii_c, am_ril_c, am_vi_c, am_vl_c, am_vr_c, am_ob_c, am_ob_n, am_ob_ite, am_kk_i, am_kk_r, am_kk_l, am_kk_n, am_ui_1, am_ui_2, am_ul_1, am_ul_2, am_b0, am_tl_s, am_tl_n, am_jp, am_ic, am_ct_n, am_ct_c, am_10, am_01, am_b1, am_nn, or_true, or_false, true_or, false_or, Int32.reduceLT, Int32.reduceLE, Int32.reduceAdd, Int32.reduceSub, not_true_eq_false, not_false_eq_true, Nat.reduceAdd, Int.reduceAdd, Int.reduceNeg, Int.reduceLE, Int.reduceSub, Int.reduceToNat, if_true, if_false, ite_true, ite_false, Bool.or_false, Bool.false_or, Bool.or_true, Bool.true_or, Nat.reduceBEq, Nat.reduceEqDiff, reduceIte, eq_self, false_and, and_false, true_and, and_true, Bool.false_eq_true, Bool.true_eq_false, reduceCtorEq, dX3_start_0, am_dx_aload_n_0, am_ld_0, dX3_start_1, am_dx_iconst_0, dX3_start_2, am_dx_putfield, dX3_start_5, dX3_start_6, am_dx_istore_5, am_set_5, am_ld_4, am_set_4, am_st1_5, am_lnl_5, dX3_start_8, am_dx_iload_5, am_ld_5, dX3_start_10, am_dx_aload_n_1, am_ld_1, dX3_start_11, am_dx_getfield, dX3_start_14, am_dx_if_icmp_ge, dX3_start_17, dX3_start_18, dX3_start_21, dX3_start_23, am_dx_aload_n_2, am_ld_2, dX3_start_24, dX3_start_25, dX3_start_28, dX3_start_30, am_dx_iaload, dX3_start_31, dX3_start_32, dX3_start_35, dX3_start_37, dX3_start_38, dX3_start_39, am_dx_invokevirtual, dX3_start_42, am_dx_lastore, dX3_start_43, dX3_start_44, dX3_start_47, dX3_start_49, dX3_start_50, dX3_start_51, dX3_start_54, dX3_start_56, dX3_start_57, dX3_start_58, dX3_start_61, dX3_start_63, dX3_start_64, am_dx_iconst_1, dX3_start_65, dX3_start_68, dX3_start_69, am_dx_iinc_5_1, dX3_start_72, am_dx_goto, dX3_start_75, dX3_start_76, dX3_start_78, dX3_start_80, am_dx_bipush_8, dX3_start_82, dX3_start_85, dX3_start_86, dX3_start_89, dX3_start_91, am_dx_aload_n_3, am_ld_3, dX3_start_92, dX3_start_95, dX3_start_97, am_dx_baload, dX3_start_98, am_dx_bastore, dX3_start_99, dX3_start_100, dX3_start_103, dX3_start_105, am_dx_aload_4, dX3_start_107, dX3_start_110, dX3_start_112, dX3_start_113, dX3_start_114, dX3_start_117, dX3_start_120, am_dx_return, lX3_start_21, am_fr_3_3, am_fw_3_3, lX3_start_39, am_fr_1_3, am_fw_1_3, lX3_start_25, am_fr_3_4, lX3_start_42, am_fr_1_0, lX3_start_45, am_fr_1_1, lX3_start_48, am_cV_3, am_l0, am_l1, am_l2, am_l3, am_l4, lX3_start_29, am_fr_3_5, lX3_start_32, am_fr_3_6, lX3_start_54, am_fr_4_1, lX3_start_36, am_fr_3_7, am_kd_69, am_gr_69_4, am_kd_73, am_gr_69_5, am_kd_74, am_gr_69_6, am_kd_75, am_gr_69_7, am_kd_76, nI_0]
  obtain ⟨h1, i1, r1⟩ := am_loopS (fun k h => (8, [some (.ref 69), some (.ref 5), some (.ref 64), some (.ref 57), some (.ref 60), some (.int (nI k))], [], h)) (fun k h2 => s1_has h h2 Q k) 0 m (by omega) (fun k _ hk h2 hI => s1_s h m hm Q r z ho e5 k hk h2 hI) (am_ui h 69 3 0) ⟨rfl, fun _ _ => rfl, fun k hk => by omega⟩
  obtain ⟨i1, i2, i3⟩ := i1
  have ec : ∀ a, a ≠ 69 → h1.1 a = h.1 a := fun a ha => by
    rw [i1]
    funext b
    ((try simp only [am_ui_1, am_ui_2, true_and, and_true, and_self, if_true, reduceIte]); (repeat first | rw [if_neg (by omega)] | rw [if_pos (by omega)]); try rfl)
  have r2 : am_Re GX3_start cX3_start (8, [some (.ref 69), some (.ref 5), some (.ref 64), some (.ref 57), some (.ref 60), some (.int (nI m))], [], h1) (78, [some (.ref 69), some (.ref 5), some (.ref 64), some (.ref 57), some (.ref 60), some (.int (nI 0))], [], h1) := by
    have q5 : h1.1 5 3 = nI m := by rw [ec 5 (by omega)]; exact e5
    have q6 := nIle' (a := m) (b := m) (by omega) (by omega)
    have k5 : am_kd 5 = (1, 4) := rfl
    refine am_Re_go (sp := [78]) 40 ?_
    simp only [am_go_s, am_bd_none, am_bd_rt, am_bd_nx, am_bd_ite, am_1i_c, am_2i_c, am_1l_c, am_2l_c, am_li_c, am_1r_c, am_ri_c, am_rii_c, am_ril_c, am_vi_c, am_vl_c, am_vr_c, am_ob_c, am_ob_n, am_ob_ite, am_kk_i, am_kk_r, am_kk_l, am_kk_n, am_ui_1, am_ui_2, am_ul_1, am_ul_2, am_b0, am_tl_s, am_tl_n, am_jp, am_ic, am_ct_n, am_ct_c, am_10, am_01, am_b1, am_nn, or_true, or_false, true_or, false_or, Int32.reduceLT, Int32.reduceLE, Int32.reduceAdd, Int32.reduceSub, not_true_eq_false, not_false_eq_true, Nat.reduceAdd, Int.reduceAdd, Int.reduceNeg, Int.reduceLE, Int.reduceSub, Int.reduceToNat, if_true, if_false, ite_true, ite_false, Bool.or_false, Bool.false_or, Bool.or_true, Bool.true_or, Nat.reduceBEq, Nat.reduceEqDiff, reduceIte, eq_self, false_and, and_false, true_and, and_true, Bool.false_eq_true, Bool.true_eq_false, reduceCtorEq, dX3_start_0, am_dx_aload_n_0, am_ld_0, dX3_start_1, am_dx_iconst_0, dX3_start_2, am_dx_putfield, dX3_start_5, dX3_start_6, am_dx_istore_5, am_set_5, am_ld_4, am_set_4, am_st1_5, am_lnl_5, dX3_start_8, am_dx_iload_5, am_ld_5, dX3_start_10, am_dx_aload_n_1, am_ld_1, dX3_start_11, am_dx_getfield, dX3_start_14, am_dx_if_icmp_ge, dX3_start_17, dX3_start_18, dX3_start_21, dX3_start_23, am_dx_aload_n_2, am_ld_2, dX3_start_24, dX3_start_25, dX3_start_28, dX3_start_30, am_dx_iaload, dX3_start_31, dX3_start_32, dX3_start_35, dX3_start_37, dX3_start_38, dX3_start_39, am_dx_invokevirtual, dX3_start_42, am_dx_lastore, dX3_start_43, dX3_start_44, dX3_start_47, dX3_start_49, dX3_start_50, dX3_start_51, dX3_start_54, dX3_start_56, dX3_start_57, dX3_start_58, dX3_start_61, dX3_start_63, dX3_start_64, am_dx_iconst_1, dX3_start_65, dX3_start_68, dX3_start_69, am_dx_iinc_5_1, dX3_start_72, am_dx_goto, dX3_start_75, dX3_start_76, dX3_start_78, dX3_start_80, am_dx_bipush_8, dX3_start_82, dX3_start_85, dX3_start_86, dX3_start_89, dX3_start_91, am_dx_aload_n_3, am_ld_3, dX3_start_92, dX3_start_95, dX3_start_97, am_dx_baload, dX3_start_98, am_dx_bastore, dX3_start_99, dX3_start_100, dX3_start_103, dX3_start_105, am_dx_aload_4, dX3_start_107, dX3_start_110, dX3_start_112, dX3_start_113, dX3_start_114, dX3_start_117, dX3_start_120, am_dx_return, lX3_start_21, am_fr_3_3, am_fw_3_3, lX3_start_39, am_fr_1_3, am_fw_1_3, lX3_start_25, am_fr_3_4, lX3_start_42, am_fr_1_0, lX3_start_45, am_fr_1_1, lX3_start_48, am_cV_3, am_l0, am_l1, am_l2, am_l3, am_l4, lX3_start_29, am_fr_3_5, lX3_start_32, am_fr_3_6, lX3_start_54, am_fr_4_1, lX3_start_36, am_fr_3_7, am_kd_69, am_gr_69_4, am_kd_73, am_gr_69_5, am_kd_74, am_gr_69_6, am_kd_75, am_gr_69_7, am_kd_76, q5, q6, k5, nI_0]
  obtain ⟨h2, j1, r3⟩ := am_loopS (fun k h => (78, [some (.ref 69), some (.ref 5), some (.ref 64), some (.ref 57), some (.ref 60), some (.int (nI k))], [], h)) (fun k h2 => s2_has h1 h2 M0 M1 k) 0 8 (by omega) (fun k _ hk h2 hI => s2_s h1 M0 M1 (pg_cg (ec _ (by omega)) (ec _ (by omega)) g0) (pg_cg (ec _ (by omega)) (ec _ (by omega)) g1) k hk h2 hI) h1 ⟨rfl, fun _ _ _ => rfl, fun j hj => by omega, fun j hj => by omega⟩
  obtain ⟨j1, j2, j3, j4⟩ := j1
  refine ⟨h2, am_run2 _ rfl rfl rfl (r0 _ (r1 _ (r2 _ (r3 _ ?_)))), ⟨?_, fun i v e => ?_, fun k hk => ?_, fun k hk => ?_⟩, fun k hk => ?_, fun a ha => ⟨?_, ?_⟩⟩
  · have q6 : 8 ≤ nI 8 := nIle' (a := 8) (b := 8) (by omega) (by omega)
    refine am_Big_end (sp := []) 40 ?_
    simp only [am_go_s, am_bd_none, am_bd_rt, am_bd_nx, am_bd_ite, am_1i_c, am_2i_c, am_1l_c, am_2l_c, am_li_c, am_1r_c, am_ri_c, am_rii_c, am_ril_c, am_vi_c, am_vl_c, am_vr_c, am_ob_c, am_ob_n, am_ob_ite, am_kk_i, am_kk_r, am_kk_l, am_kk_n, am_ui_1, am_ui_2, am_ul_1, am_ul_2, am_b0, am_tl_s, am_tl_n, am_jp, am_ic, am_ct_n, am_ct_c, am_10, am_01, am_b1, am_nn, or_true, or_false, true_or, false_or, Int32.reduceLT, Int32.reduceLE, Int32.reduceAdd, Int32.reduceSub, not_true_eq_false, not_false_eq_true, Nat.reduceAdd, Int.reduceAdd, Int.reduceNeg, Int.reduceLE, Int.reduceSub, Int.reduceToNat, if_true, if_false, ite_true, ite_false, Bool.or_false, Bool.false_or, Bool.or_true, Bool.true_or, Nat.reduceBEq, Nat.reduceEqDiff, reduceIte, eq_self, false_and, and_false, true_and, and_true, Bool.false_eq_true, Bool.true_eq_false, reduceCtorEq, dX3_start_0, am_dx_aload_n_0, am_ld_0, dX3_start_1, am_dx_iconst_0, dX3_start_2, am_dx_putfield, dX3_start_5, dX3_start_6, am_dx_istore_5, am_set_5, am_ld_4, am_set_4, am_st1_5, am_lnl_5, dX3_start_8, am_dx_iload_5, am_ld_5, dX3_start_10, am_dx_aload_n_1, am_ld_1, dX3_start_11, am_dx_getfield, dX3_start_14, am_dx_if_icmp_ge, dX3_start_17, dX3_start_18, dX3_start_21, dX3_start_23, am_dx_aload_n_2, am_ld_2, dX3_start_24, dX3_start_25, dX3_start_28, dX3_start_30, am_dx_iaload, dX3_start_31, dX3_start_32, dX3_start_35, dX3_start_37, dX3_start_38, dX3_start_39, am_dx_invokevirtual, dX3_start_42, am_dx_lastore, dX3_start_43, dX3_start_44, dX3_start_47, dX3_start_49, dX3_start_50, dX3_start_51, dX3_start_54, dX3_start_56, dX3_start_57, dX3_start_58, dX3_start_61, dX3_start_63, dX3_start_64, am_dx_iconst_1, dX3_start_65, dX3_start_68, dX3_start_69, am_dx_iinc_5_1, dX3_start_72, am_dx_goto, dX3_start_75, dX3_start_76, dX3_start_78, dX3_start_80, am_dx_bipush_8, dX3_start_82, dX3_start_85, dX3_start_86, dX3_start_89, dX3_start_91, am_dx_aload_n_3, am_ld_3, dX3_start_92, dX3_start_95, dX3_start_97, am_dx_baload, dX3_start_98, am_dx_bastore, dX3_start_99, dX3_start_100, dX3_start_103, dX3_start_105, am_dx_aload_4, dX3_start_107, dX3_start_110, dX3_start_112, dX3_start_113, dX3_start_114, dX3_start_117, dX3_start_120, am_dx_return, lX3_start_21, am_fr_3_3, am_fw_3_3, lX3_start_39, am_fr_1_3, am_fw_1_3, lX3_start_25, am_fr_3_4, lX3_start_42, am_fr_1_0, lX3_start_45, am_fr_1_1, lX3_start_48, am_cV_3, am_l0, am_l1, am_l2, am_l3, am_l4, lX3_start_29, am_fr_3_5, lX3_start_32, am_fr_3_6, lX3_start_54, am_fr_4_1, lX3_start_36, am_fr_3_7, am_kd_69, am_gr_69_4, am_kd_73, am_gr_69_5, am_kd_74, am_gr_69_6, am_kd_75, am_gr_69_7, am_kd_76, q6]
  · rw [j2 69 (by omega) (by omega), i1]
    show _ = nI 0
    ((try simp only [am_ui_1, am_ui_2, true_and, and_true, and_self, if_true, reduceIte]); (repeat first | rw [if_neg (by omega)] | rw [if_pos (by omega)]); try rfl)
  · simp at e
  · have : t0 M0 [] k ↔ tkn M0 k := by unfold t0; simp
    rw [this]
    exact j3 k hk
  · have : t1 M1 [] k ↔ tkn M1 k := by unfold t1; simp
    rw [this]
    exact j4 k hk
  · rw [j1]
    exact i3 k hk
  · rw [j2 a (by omega) (by omega), ec a (by omega)]
  · rw [j1, i2 a (by omega)]
theorem m_X3_squareTo (h : am_H) (Q : List ft_q) (X Y : Nat → Int32) (m : Nat) (hl : ml_has h Q X Y m) (i j : Nat) (hi : i < m) (hm : m ≤ 8) (hj : j < 8) : fX3_squareTo [.ref 69, .int (nI i), .ref 9, .int (nI j)] h = some (some (.long (ft_m Q (X i, Y i, h.1 10 j, h.1 11 j))), h) := by
  obtain ⟨l1, l2⟩ := hl i hi
  unfold ft_m
  dsimp only
  generalize ft_pl Q (X i) (Y i) 0 = A at l1
  generalize ft_pl Q (X i) (Y i) 1 = B at l2
  have hx : ∀ z : am_S, am_ix (nI i) 8 z = z := fun z => am_ix_c (show i < 8 by omega) (by omega)
  have hcl := am_clp (show i < 8 by omega) (by omega)
  have hy : ∀ z : am_S, am_ix (nI j) 8 z = z := fun z => am_ix_c hj (by omega)
  have hcm := am_clp hj (by omega)
  have k9 : am_kd 9 = (1, 4) := rfl
  have k10 : am_kd 10 = (20, 8) := rfl
  have k11 : am_kd 11 = (20, 8) := rfl
  have r10 : am_gr 9 0 = 10 := rfl
  have r11 : am_gr 9 1 = 11 := rfl
  refine am_run1 60 [some (.ref 69), some (.int (nI i)), some (.ref 9), some (.int (nI j)), none, none, none, none] rfl rfl rfl ?_
  simp only [am_go_s, am_bd_none, am_bd_rt, am_bd_nx, am_bd_ite, am_1i_c, am_2i_c, am_1l_c, am_2l_c, am_li_c, am_1r_c, am_ri_c, am_rii_c, am_ril_c, am_vi_c, am_vl_c, am_vr_c, am_ob_c, am_ob_n, am_ob_ite, am_kk_i, am_kk_r, am_kk_l, am_kk_n, am_ui_1, am_ui_2, am_ul_1, am_ul_2, am_b0, am_tl_s, am_tl_n, am_jp, am_ic, am_ct_n, am_ct_c, am_10, am_01, am_b1, am_nn, or_true, or_false, true_or, false_or, Int32.reduceLT, Int32.reduceLE, Int32.reduceAdd, Int32.reduceSub, not_true_eq_false, not_false_eq_true, Nat.reduceAdd, Int.reduceAdd, Int.reduceNeg, Int.reduceLE, Int.reduceSub, Int.reduceToNat, if_true, if_false, ite_true, ite_false, Bool.or_false, Bool.false_or, Bool.or_true, Bool.true_or, Nat.reduceBEq, Nat.reduceEqDiff, reduceIte, eq_self, false_and, and_false, true_and, and_true, Bool.false_eq_true, Bool.true_eq_false, reduceCtorEq, dX3_squareTo_0, am_dx_aload_n_0, am_ld_0, dX3_squareTo_1, am_dx_getfield, dX3_squareTo_4, am_dx_iload_n_1, am_ld_1, dX3_squareTo_5, am_dx_laload, dX3_squareTo_6, am_dx_aload_n_2, am_ld_2, dX3_squareTo_7, dX3_squareTo_10, am_dx_iload_n_3, am_ld_3, dX3_squareTo_11, am_dx_iaload, dX3_squareTo_12, am_dx_i2l, dX3_squareTo_13, am_dx_lsub, dX3_squareTo_14, am_dx_lstore_4, am_set_4, am_set_3, am_st2_4, am_lnl_5, am_set_5, dX3_squareTo_16, dX3_squareTo_17, dX3_squareTo_20, dX3_squareTo_21, dX3_squareTo_22, dX3_squareTo_23, dX3_squareTo_26, dX3_squareTo_27, dX3_squareTo_28, dX3_squareTo_29, dX3_squareTo_30, am_dx_lstore_6, am_set_6, am_ld_5, am_st2_6, am_lnl_7, am_set_7, dX3_squareTo_32, am_dx_lload_4, am_ld_4, dX3_squareTo_34, dX3_squareTo_36, am_dx_lmul, dX3_squareTo_37, am_dx_lload_6, am_ld_6, dX3_squareTo_39, dX3_squareTo_41, dX3_squareTo_42, am_dx_ladd, dX3_squareTo_43, am_dx_lreturn, lX3_squareTo_25, am_fr_3_4, lX3_squareTo_42, am_fr_1_0, lX3_squareTo_29, am_fr_3_5, lX3_squareTo_45, am_fr_1_1, am_kd_69, am_gr_69_4, am_kd_73, am_gr_69_5, am_kd_74, hx, hcl, hy, hcm, k9, k10, k11, r10, r11, l1, l2]
theorem t0_a {M : pm_M} {V : mv_V} {v : Nat × Nat × Int64} {k : Nat} : t0 M (V ++ [v]) k ↔ (k = v.1 ∨ t0 M V k) := by
  unfold t0
  constructor
  · intro h
    rcases h with h | ⟨w, hw, e⟩
    · exact Or.inr (Or.inl h)
    · rcases List.mem_append.mp hw with hw | hw
      · exact Or.inr (Or.inr ⟨w, hw, e⟩)
      · rw [List.mem_singleton] at hw
        subst hw
        exact Or.inl e.symm
  · intro h
    rcases h with h | h | ⟨w, hw, e⟩
    · exact Or.inr ⟨v, List.mem_append.mpr (Or.inr (List.mem_singleton.mpr rfl)), h.symm⟩
    · exact Or.inl h
    · exact Or.inr ⟨w, List.mem_append.mpr (Or.inl hw), e⟩
theorem t1_a {M : pm_M} {V : mv_V} {v : Nat × Nat × Int64} {k : Nat} : t1 M (V ++ [v]) k ↔ (k = v.2.1 ∨ t1 M V k) := by
  unfold t1
  constructor
  · intro h
    rcases h with h | ⟨w, hw, e⟩
    · exact Or.inr (Or.inl h)
    · rcases List.mem_append.mp hw with hw | hw
      · exact Or.inr (Or.inr ⟨w, hw, e⟩)
      · rw [List.mem_singleton] at hw
        subst hw
        exact Or.inl e.symm
  · intro h
    rcases h with h | h | ⟨w, hw, e⟩
    · exact Or.inr ⟨v, List.mem_append.mpr (Or.inr (List.mem_singleton.mpr rfl)), h.symm⟩
    · exact Or.inl h
    · exact Or.inr ⟨w, List.mem_append.mpr (Or.inl hw), e⟩
theorem m_X3_append (h : am_H) (M0 M1 : pm_M) (V : mv_V) (hV : V.length < 8) (hm : mc_has h M0 M1 V) (a b : Nat) (ha : a < 8) (hb : b < 8) (w : Int64) : ∃ k, fX3_append [.ref 69, .int (nI a), .int (nI b), .int w.toInt32] h = some (none, k) ∧ mc_has k M0 M1 (V ++ [(a, b, w)]) ∧ k.2 = h.2 ∧ ∀ c, ¬ (69 ≤ c ∧ c ≤ 76) → k.1 c = h.1 c := by
  obtain ⟨m1, m2, m3, m4⟩ := hm
  have hx : ∀ z : am_S, am_ix (nI a) 8 z = z := fun z => am_ix_c ha (by omega)
  have hcl := am_clp ha (by omega)
  have hy : ∀ z : am_S, am_ix (nI b) 8 z = z := fun z => am_ix_c hb (by omega)
  have hcm := am_clp hb (by omega)
  have hz : ∀ z : am_S, am_ix (nI V.length) 8 z = z := fun z => am_ix_c hV (by omega)
  have hcz := am_clp hV (by omega)
  generalize hc : V.length = c at *
  refine ⟨am_ui (am_ui (am_ui (am_ui (am_ui (am_ui h 70 c (nI a)) 71 c (nI b)) 72 c w.toInt32) 69 3 (nI (c + 1))) 75 a 1) 76 b 1, ?_, ⟨?_, fun i v e => ?_, fun k hk => ⟨fun t => ?_, fun t => ?_⟩, fun k hk => ⟨fun t => ?_, fun t => ?_⟩⟩, rfl, fun z hz => ?_⟩
  · refine am_run1 60 [some (.ref 69), some (.int (nI a)), some (.int (nI b)), some (.int w.toInt32)] rfl rfl rfl ?_
    simp only [am_go_s, am_bd_none, am_bd_rt, am_bd_nx, am_bd_ite, am_1i_c, am_2i_c, am_1l_c, am_2l_c, am_li_c, am_1r_c, am_ri_c, am_rii_c, am_ril_c, am_vi_c, am_vl_c, am_vr_c, am_ob_c, am_ob_n, am_ob_ite, am_kk_i, am_kk_r, am_kk_l, am_kk_n, am_ui_1, am_ui_2, am_ul_1, am_ul_2, am_b0, am_tl_s, am_tl_n, am_jp, am_ic, am_ct_n, am_ct_c, am_10, am_01, am_b1, am_nn, or_true, or_false, true_or, false_or, Int32.reduceLT, Int32.reduceLE, Int32.reduceAdd, Int32.reduceSub, not_true_eq_false, not_false_eq_true, Nat.reduceAdd, Int.reduceAdd, Int.reduceNeg, Int.reduceLE, Int.reduceSub, Int.reduceToNat, if_true, if_false, ite_true, ite_false, Bool.or_false, Bool.false_or, Bool.or_true, Bool.true_or, Nat.reduceBEq, Nat.reduceEqDiff, reduceIte, eq_self, false_and, and_false, true_and, and_true, Bool.false_eq_true, Bool.true_eq_false, reduceCtorEq, dX3_append_0, am_dx_aload_n_0, am_ld_0, dX3_append_1, am_dx_getfield, dX3_append_4, dX3_append_5, dX3_append_8, am_dx_iload_n_1, am_ld_1, dX3_append_9, am_dx_iastore, dX3_append_10, dX3_append_11, dX3_append_14, dX3_append_15, dX3_append_18, am_dx_iload_n_2, am_ld_2, dX3_append_19, dX3_append_20, dX3_append_21, dX3_append_24, dX3_append_25, dX3_append_28, am_dx_iload_n_3, am_ld_3, dX3_append_29, dX3_append_30, dX3_append_31, am_dx_dup_i, am_dx_dup_r, dX3_append_32, dX3_append_35, am_dx_iconst_1, dX3_append_36, am_dx_iadd, dX3_append_37, am_dx_putfield, dX3_append_40, dX3_append_41, dX3_append_44, dX3_append_45, dX3_append_46, am_dx_bastore, dX3_append_47, dX3_append_48, dX3_append_51, dX3_append_52, dX3_append_53, dX3_append_54, am_dx_return, lX3_append_9, am_fr_3_0, lX3_append_21, am_fr_3_3, am_fw_3_3, lX3_append_15, am_fr_3_1, lX3_append_18, am_fr_3_2, lX3_append_32, am_fr_3_6, lX3_append_36, am_fr_3_7, am_kd_69, am_gr_69_0, am_kd_70, am_gr_69_1, am_kd_71, am_gr_69_2, am_kd_72, am_gr_69_6, am_kd_75, am_gr_69_7, am_kd_76, m1, hx, hcl, hy, hcm, hz, hcz, nI_1p, am_ne_0_1, am_ne_0_2, am_ne_0_3, am_ne_1_0, am_ne_1_2, am_ne_1_3, am_ne_2_0, am_ne_2_1, am_ne_2_3, am_ne_3_0, am_ne_3_1, am_ne_3_2]
  · rw [List.length_append, hc]
    ((try simp only [am_ui_1, am_ui_2, true_and, and_true, and_self, if_true, reduceIte]); (repeat first | rw [if_neg (by omega)] | rw [if_pos (by omega)]); try rfl)
  · rw [List.getElem?_append] at e
    split at e
    · obtain ⟨g1, g2, g3⟩ := m2 i v e
      refine ⟨?_, ?_, ?_⟩
      · rw [← g1]; ((try simp only [am_ui_1, am_ui_2, true_and, and_true, and_self, if_true, reduceIte]); (repeat first | rw [if_neg (by omega)] | rw [if_pos (by omega)]); try rfl)
      · rw [← g2]; ((try simp only [am_ui_1, am_ui_2, true_and, and_true, and_self, if_true, reduceIte]); (repeat first | rw [if_neg (by omega)] | rw [if_pos (by omega)]); try rfl)
      · rw [← g3]; ((try simp only [am_ui_1, am_ui_2, true_and, and_true, and_self, if_true, reduceIte]); (repeat first | rw [if_neg (by omega)] | rw [if_pos (by omega)]); try rfl)
    · have ee : i = c ∧ (a, b, w) = v := by
        rw [List.getElem?_cons] at e
        split at e
        · exact ⟨by omega, Option.some.inj e⟩
        · simp at e
      obtain ⟨rfl, rfl⟩ := ee
      exact ⟨by ((try simp only [am_ui_1, am_ui_2, true_and, and_true, and_self, if_true, reduceIte]); (repeat first | rw [if_neg (by omega)] | rw [if_pos (by omega)]); try rfl), by ((try simp only [am_ui_1, am_ui_2, true_and, and_true, and_self, if_true, reduceIte]); (repeat first | rw [if_neg (by omega)] | rw [if_pos (by omega)]); try rfl), by ((try simp only [am_ui_1, am_ui_2, true_and, and_true, and_self, if_true, reduceIte]); (repeat first | rw [if_neg (by omega)] | rw [if_pos (by omega)]); try rfl)⟩
  · rw [t0_a] at t
    by_cases e : k = a
    · subst e
      ((try simp only [am_ui_1, am_ui_2, true_and, and_true, and_self, if_true, reduceIte]); (repeat first | rw [if_neg (by omega)] | rw [if_pos (by omega)]); try rfl)
    · rw [← (m3 k hk).1 (t.resolve_left e)]
      ((try simp only [am_ui_1, am_ui_2, true_and, and_true, and_self, if_true, reduceIte]); (repeat first | rw [if_neg (by omega)] | rw [if_pos (by omega)]); try rfl)
  · rw [t0_a, not_or] at t
    rw [← (m3 k hk).2 t.2]
    have := t.1
    dsimp only at this
    ((try simp only [am_ui_1, am_ui_2, true_and, and_true, and_self, if_true, reduceIte]); (repeat first | rw [if_neg (by omega)] | rw [if_pos (by omega)]); try rfl)
  · rw [t1_a] at t
    by_cases e : k = b
    · subst e
      ((try simp only [am_ui_1, am_ui_2, true_and, and_true, and_self, if_true, reduceIte]); (repeat first | rw [if_neg (by omega)] | rw [if_pos (by omega)]); try rfl)
    · rw [← (m4 k hk).1 (t.resolve_left e)]
      ((try simp only [am_ui_1, am_ui_2, true_and, and_true, and_self, if_true, reduceIte]); (repeat first | rw [if_neg (by omega)] | rw [if_pos (by omega)]); try rfl)
  · rw [t1_a, not_or] at t
    rw [← (m4 k hk).2 t.2]
    have := t.1
    dsimp only at this
    ((try simp only [am_ui_1, am_ui_2, true_and, and_true, and_self, if_true, reduceIte]); (repeat first | rw [if_neg (by omega)] | rw [if_pos (by omega)]); try rfl)
  · funext y
    ((try simp only [am_ui_1, am_ui_2, true_and, and_true, and_self, if_true, reduceIte]); (repeat first | rw [if_neg (by omega)] | rw [if_pos (by omega)]); try rfl)
