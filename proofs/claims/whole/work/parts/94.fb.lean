/-! findBoth -/
def pb (M0 M1 : pm_M) : Nat → List (Nat × Nat)
  | 0 => []
  | s + 1 => match M0 s, M1 s with
    | some k, some l => pb M0 M1 s ++ [(k, l)]
    | _, _ => pb M0 M1 s
theorem pb_p {M0 M1 : pm_M} {s k l : Nat} (e0 : M0 s = some k) (e1 : M1 s = some l) : pb M0 M1 (s + 1) = pb M0 M1 s ++ [(k, l)] := by rw [pb, e0, e1]
theorem pb_n {M0 M1 : pm_M} {s : Nat} (h : ¬ bi M0 M1 s = true) : pb M0 M1 (s + 1) = pb M0 M1 s := by
  rcases bi_f h with e | ⟨k, e0, e1⟩
  · rw [pb, e]
  · rw [pb, e0, e1]
theorem pb_le (M0 M1 : pm_M) (s : Nat) : (pb M0 M1 s).length ≤ s := by
  induction s with
  | zero => exact Nat.le_refl _
  | succ s ih =>
    by_cases c : bi M0 M1 s = true
    · obtain ⟨k, l, e0, e1⟩ := bi_t c
      rw [pb_p e0 e1, List.length_append, List.length_singleton]
      omega
    · rw [pb_n c]
      omega
theorem pb_in {M0 M1 : pm_M} {a k l : Nat} : (k, l) ∈ pb M0 M1 a ↔ ∃ s, s < a ∧ M0 s = some k ∧ M1 s = some l := by
  induction a with
  | zero => simp [pb]
  | succ a ih =>
    by_cases c : bi M0 M1 a = true
    · obtain ⟨k2, l2, e0, e1⟩ := bi_t c
      rw [pb_p e0 e1, List.mem_append, ih, List.mem_singleton]
      constructor
      · intro h
        rcases h with ⟨s, h1, h2⟩ | h
        · exact ⟨s, by omega, h2⟩
        · cases h
          exact ⟨a, by omega, e0, e1⟩
      · intro ⟨s, h1, h2, h3⟩
        by_cases e : s = a
        · subst e
          rw [e0] at h2
          rw [e1] at h3
          cases h2
          cases h3
          exact Or.inr rfl
        · exact Or.inl ⟨s, by omega, h2, h3⟩
    · rw [pb_n c, ih]
      constructor
      · intro ⟨s, h1, h2⟩
        exact ⟨s, by omega, h2⟩
      · intro ⟨s, h1, h2, h3⟩
        by_cases e : s = a
        · subst e
          exact absurd (bi_s h2 h3) c
        · exact ⟨s, by omega, h2, h3⟩
theorem pb_1 {M0 M1 : pm_M} {a : Nat} (h : 1 ≤ (pb M0 M1 a).length) : ∃ s k l, s < a ∧ M0 s = some k ∧ M1 s = some l := by
  induction a with
  | zero => simp [pb] at h
  | succ a ih =>
    by_cases c : bi M0 M1 a = true
    · obtain ⟨k2, l2, e0, e1⟩ := bi_t c
      exact ⟨a, k2, l2, by omega, e0, e1⟩
    · rw [pb_n c] at h
      obtain ⟨s, k, l, h1, h2⟩ := ih h
      exact ⟨s, k, l, by omega, h2⟩
theorem pb_2 {M0 M1 : pm_M} {a : Nat} (h : 2 ≤ (pb M0 M1 a).length) : ∃ s k l t k2 l2, s < t ∧ t < a ∧ M0 s = some k ∧ M1 s = some l ∧ M0 t = some k2 ∧ M1 t = some l2 := by
  induction a with
  | zero => simp [pb] at h
  | succ a ih =>
    by_cases c : bi M0 M1 a = true
    · obtain ⟨k2, l2, e0, e1⟩ := bi_t c
      rw [pb_p e0 e1, List.length_append, List.length_singleton] at h
      obtain ⟨s, k, l, h1, h2, h3⟩ := pb_1 (M0 := M0) (M1 := M1) (a := a) (by omega)
      exact ⟨s, k, l, a, k2, l2, h1, by omega, h2, h3, e0, e1⟩
    · rw [pb_n c] at h
      obtain ⟨s, k, l, t, k2, l2, h1, h2, h3⟩ := ih h
      exact ⟨s, k, l, t, k2, l2, h1, by omega, h3⟩
theorem b_s (n : Nat) (hn : n ≤ 8) (M0 M1 : pm_M) (hM0 : ∀ s k, M0 s = some k → k < 8) (hM1 : ∀ s k, M1 s = some k → k < 8) (h0 : am_H) (e78 : h0.1 78 0 = nI n) (g0 : mr_has h0 0 M0) (g1 : mr_has h0 1 M1) (s : Nat) (hs : s < n) (h : am_H) (r : rp_has h (pb M0 M1 s)) (f : pr_fr h0 h) : ∃ h2, (rp_has h2 (pb M0 M1 (s + 1)) ∧ pr_fr h0 h2) ∧ am_Re GX9_findBoth cX9_findBoth (19, [some (.ref 77), some (.int (nI s))], [], h) (19, [some (.ref 77), some (.int (nI (s + 1)))], [], h2) := by
  have q5 : h.1 78 0 = nI n := by rw [f.2.1 78 (by omega) (by omega) (by omega)]; exact e78
  have q6 := nIlt' (a := s) (b := n) (by omega) hs
  have x0 : ∀ z : am_S, am_ix 0 3 z = z := am_x3.1
  have hx : ∀ z : am_S, am_ix (nI s) 16 z = z := fun z => am_ix_c (by omega) (by omega)
  have hcl : (nI s).toNatClampNeg = s := am_clp (n := 16) (by omega) (by omega)
  have hx8 : ∀ z : am_S, am_ix (nI (8 + s)) 16 z = z := fun z => am_ix_c (by omega) (by omega)
  have hc8 : (nI (8 + s)).toNatClampNeg = 8 + s := am_clp (n := 16) (by omega) (by omega)
  have e86 : h.1 86 s = mv (M0 s) := by
    rw [f.2.1 86 (by omega) (by omega) (by omega)]
    have := g0 s (by omega)
    rw [show 8 * 0 + s = s by omega] at this
    exact this
  have e87 : h.1 86 (8 + s) = mv (M1 s) := by
    rw [f.2.1 86 (by omega) (by omega) (by omega)]
    exact g1 s (by omega)
  by_cases c : bi M0 M1 s = true
  · obtain ⟨k, l, e0, e1⟩ := bi_t c
    rw [e0] at e86
    rw [e1] at e87
    have e86 : h.1 86 s = nI k := e86
    have e87 : h.1 86 (8 + s) = nI l := e87
    have hk := hM0 s k e0
    have hl := hM1 s l e1
    have n9 := mv_9 (k := k) (by omega)
    have n8 := mv_9 (k := l) (by omega)
    rw [pb_p e0 e1]
    have ll : (pb M0 M1 s).length < 8 := by
      have := pb_le M0 M1 s
      omega
    generalize pb M0 M1 s = P at r ll
    obtain ⟨r0, r1⟩ := r
    have hy : ∀ z : am_S, am_ix (nI P.length) 8 z = z := fun z => am_ix_c ll (by omega)
    have hcm := am_clp ll (by omega)
    generalize hc : P.length = c at *
    refine ⟨am_ui (am_ui (am_ui h 87 c (nI k)) 88 c (nI l)) 77 18 (nI (c + 1)), ⟨⟨?_, ?_⟩, pr_tr f ⟨rfl, fun a c1 c2 c3 => ?_, fun b hb => ?_⟩⟩, am_Re_go (sp := [19]) 60 ?_⟩
    · rw [List.length_append, hc]
      ((try simp only [am_ui_1, am_ui_2, true_and, and_true, and_self, if_true, reduceIte]); (repeat first | rw [if_neg (by omega)] | rw [if_pos (by omega)]); try rfl)
    · intro i a e
      rw [List.getElem?_append] at e
      split at e
      · obtain ⟨g1, g2, g3⟩ := r1 i a e
        refine ⟨?_, ?_, g3⟩
        · rw [← g1]; ((try simp only [am_ui_1, am_ui_2, true_and, and_true, and_self, if_true, reduceIte]); (repeat first | rw [if_neg (by omega)] | rw [if_pos (by omega)]); try rfl)
        · rw [← g2]; ((try simp only [am_ui_1, am_ui_2, true_and, and_true, and_self, if_true, reduceIte]); (repeat first | rw [if_neg (by omega)] | rw [if_pos (by omega)]); try rfl)
      · have ee : i = c ∧ (k, l) = a := by
          rw [List.getElem?_cons] at e
          split at e
          · exact ⟨by omega, Option.some.inj e⟩
          · simp at e
        obtain ⟨rfl, rfl⟩ := ee
        exact ⟨by ((try simp only [am_ui_1, am_ui_2, true_and, and_true, and_self, if_true, reduceIte]); (repeat first | rw [if_neg (by omega)] | rw [if_pos (by omega)]); try rfl), by ((try simp only [am_ui_1, am_ui_2, true_and, and_true, and_self, if_true, reduceIte]); (repeat first | rw [if_neg (by omega)] | rw [if_pos (by omega)]); try rfl), hk, hl⟩
    · funext z
      ((try simp only [am_ui_1, am_ui_2, true_and, and_true, and_self, if_true, reduceIte]); (repeat first | rw [if_neg (by omega)] | rw [if_pos (by omega)]); try rfl)
    · ((try simp only [am_ui_1, am_ui_2, true_and, and_true, and_self, if_true, reduceIte]); (repeat first | rw [if_neg (by omega)] | rw [if_pos (by omega)]); try rfl)
    · simp only [am_go_s, am_bd_none, am_bd_rt, am_bd_nx, am_bd_ite, am_1i_c, am_2i_c, am_1l_c, am_2l_c, am_li_c, am_1r_c, am_ri_c, am_rii_c, am_ril_c, am_vi_c, am_vl_c, am_vr_c, am_ob_c, am_ob_n, am_ob_ite, am_kk_i, am_kk_r, am_kk_l, am_kk_n, am_ui_1, am_ui_2, am_ul_1, am_ul_2, am_b0, am_tl_s, am_tl_n, am_jp, am_ic, am_ct_n, am_ct_c, am_10, am_01, am_b1, am_nn, or_true, or_false, true_or, false_or, Int32.reduceLT, Int32.reduceLE, Int32.reduceAdd, Int32.reduceSub, not_true_eq_false, not_false_eq_true, Nat.reduceAdd, Int.reduceAdd, Int.reduceNeg, Int.reduceLE, Int.reduceSub, Int.reduceToNat, if_true, if_false, ite_true, ite_false, Bool.or_false, Bool.false_or, Bool.or_true, Bool.true_or, Nat.reduceBEq, Nat.reduceEqDiff, reduceIte, eq_self, false_and, and_false, true_and, and_true, Bool.false_eq_true, Bool.true_eq_false, reduceCtorEq, dX9_findBoth_0, am_dx_aload_n_0, am_ld_0, dX9_findBoth_1, am_dx_iconst_0, dX9_findBoth_2, am_dx_invokevirtual, dX9_findBoth_5, am_dx_pop, dX9_findBoth_6, dX9_findBoth_7, am_dx_iconst_1, dX9_findBoth_8, dX9_findBoth_11, dX9_findBoth_12, dX9_findBoth_13, dX9_findBoth_14, am_dx_putfield, dX9_findBoth_17, dX9_findBoth_18, am_dx_istore_n_1, am_set_1, am_set_0, am_st1_1, am_lnl_1, dX9_findBoth_19, am_dx_iload_n_1, am_ld_1, dX9_findBoth_20, dX9_findBoth_21, am_dx_getfield, dX9_findBoth_24, dX9_findBoth_25, am_dx_iaload, dX9_findBoth_26, am_dx_if_icmp_ge, dX9_findBoth_29, dX9_findBoth_30, dX9_findBoth_33, dX9_findBoth_34, dX9_findBoth_35, am_dx_bipush_m9, dX9_findBoth_37, am_dx_if_icmp_eq, dX9_findBoth_40, dX9_findBoth_41, dX9_findBoth_44, am_dx_bipush_8, dX9_findBoth_46, dX9_findBoth_47, am_dx_iadd, dX9_findBoth_48, dX9_findBoth_49, dX9_findBoth_51, dX9_findBoth_54, dX9_findBoth_55, dX9_findBoth_58, dX9_findBoth_59, dX9_findBoth_62, dX9_findBoth_63, dX9_findBoth_66, dX9_findBoth_67, dX9_findBoth_68, am_dx_iastore, dX9_findBoth_69, dX9_findBoth_70, dX9_findBoth_73, dX9_findBoth_74, dX9_findBoth_77, dX9_findBoth_78, dX9_findBoth_81, dX9_findBoth_83, dX9_findBoth_84, dX9_findBoth_85, dX9_findBoth_86, dX9_findBoth_87, dX9_findBoth_88, am_dx_dup_i, am_dx_dup_r, dX9_findBoth_89, dX9_findBoth_92, dX9_findBoth_93, dX9_findBoth_94, dX9_findBoth_97, am_dx_iinc_1_1, dX9_findBoth_100, am_dx_goto, dX9_findBoth_103, dX9_findBoth_104, dX9_findBoth_105, am_dx_iconst_2, dX9_findBoth_106, dX9_findBoth_109, dX9_findBoth_110, dX9_findBoth_113, am_dx_ireturn, lX9_findBoth_248, am_cV_1, am_l0, am_l1, am_l2, am_l3, am_l4, lX9_findBoth_221, am_fr_9_18, am_fw_9_18, lX9_findBoth_7, am_fr_9_0, lX9_findBoth_35, am_fr_9_17, lX9_findBoth_38, am_fr_9_26, lX9_findBoth_41, am_fr_9_27, lX9_findBoth_228, am_cV_2, am_kd_77, am_gr_77_0, am_kd_78, am_gr_77_17, am_kd_86, am_gr_77_26, am_kd_87, am_gr_77_27, am_kd_88, q5, q6, x0, am_c0, hx, hcl, hx8, hc8, m8p, hy, hcm, r0, e86, e87, n9, n8, nI_1p]
  · rw [pb_n c]
    refine ⟨h, ⟨r, f⟩, am_Re_go (sp := [19]) 60 ?_⟩
    rcases bi_f c with e | ⟨k, e0, e1⟩
    · rw [e, show mv none = -9 from rfl] at e86
      simp only [am_go_s, am_bd_none, am_bd_rt, am_bd_nx, am_bd_ite, am_1i_c, am_2i_c, am_1l_c, am_2l_c, am_li_c, am_1r_c, am_ri_c, am_rii_c, am_ril_c, am_vi_c, am_vl_c, am_vr_c, am_ob_c, am_ob_n, am_ob_ite, am_kk_i, am_kk_r, am_kk_l, am_kk_n, am_ui_1, am_ui_2, am_ul_1, am_ul_2, am_b0, am_tl_s, am_tl_n, am_jp, am_ic, am_ct_n, am_ct_c, am_10, am_01, am_b1, am_nn, or_true, or_false, true_or, false_or, Int32.reduceLT, Int32.reduceLE, Int32.reduceAdd, Int32.reduceSub, not_true_eq_false, not_false_eq_true, Nat.reduceAdd, Int.reduceAdd, Int.reduceNeg, Int.reduceLE, Int.reduceSub, Int.reduceToNat, if_true, if_false, ite_true, ite_false, Bool.or_false, Bool.false_or, Bool.or_true, Bool.true_or, Nat.reduceBEq, Nat.reduceEqDiff, reduceIte, eq_self, false_and, and_false, true_and, and_true, Bool.false_eq_true, Bool.true_eq_false, reduceCtorEq, dX9_findBoth_0, am_dx_aload_n_0, am_ld_0, dX9_findBoth_1, am_dx_iconst_0, dX9_findBoth_2, am_dx_invokevirtual, dX9_findBoth_5, am_dx_pop, dX9_findBoth_6, dX9_findBoth_7, am_dx_iconst_1, dX9_findBoth_8, dX9_findBoth_11, dX9_findBoth_12, dX9_findBoth_13, dX9_findBoth_14, am_dx_putfield, dX9_findBoth_17, dX9_findBoth_18, am_dx_istore_n_1, am_set_1, am_set_0, am_st1_1, am_lnl_1, dX9_findBoth_19, am_dx_iload_n_1, am_ld_1, dX9_findBoth_20, dX9_findBoth_21, am_dx_getfield, dX9_findBoth_24, dX9_findBoth_25, am_dx_iaload, dX9_findBoth_26, am_dx_if_icmp_ge, dX9_findBoth_29, dX9_findBoth_30, dX9_findBoth_33, dX9_findBoth_34, dX9_findBoth_35, am_dx_bipush_m9, dX9_findBoth_37, am_dx_if_icmp_eq, dX9_findBoth_40, dX9_findBoth_41, dX9_findBoth_44, am_dx_bipush_8, dX9_findBoth_46, dX9_findBoth_47, am_dx_iadd, dX9_findBoth_48, dX9_findBoth_49, dX9_findBoth_51, dX9_findBoth_54, dX9_findBoth_55, dX9_findBoth_58, dX9_findBoth_59, dX9_findBoth_62, dX9_findBoth_63, dX9_findBoth_66, dX9_findBoth_67, dX9_findBoth_68, am_dx_iastore, dX9_findBoth_69, dX9_findBoth_70, dX9_findBoth_73, dX9_findBoth_74, dX9_findBoth_77, dX9_findBoth_78, dX9_findBoth_81, dX9_findBoth_83, dX9_findBoth_84, dX9_findBoth_85, dX9_findBoth_86, dX9_findBoth_87, dX9_findBoth_88, am_dx_dup_i, am_dx_dup_r, dX9_findBoth_89, dX9_findBoth_92, dX9_findBoth_93, dX9_findBoth_94, dX9_findBoth_97, am_dx_iinc_1_1, dX9_findBoth_100, am_dx_goto, dX9_findBoth_103, dX9_findBoth_104, dX9_findBoth_105, am_dx_iconst_2, dX9_findBoth_106, dX9_findBoth_109, dX9_findBoth_110, dX9_findBoth_113, am_dx_ireturn, lX9_findBoth_248, am_cV_1, am_l0, am_l1, am_l2, am_l3, am_l4, lX9_findBoth_221, am_fr_9_18, am_fw_9_18, lX9_findBoth_7, am_fr_9_0, lX9_findBoth_35, am_fr_9_17, lX9_findBoth_38, am_fr_9_26, lX9_findBoth_41, am_fr_9_27, lX9_findBoth_228, am_cV_2, am_kd_77, am_gr_77_0, am_kd_78, am_gr_77_17, am_kd_86, am_gr_77_26, am_kd_87, am_gr_77_27, am_kd_88, q5, q6, x0, am_c0, hx, hcl, hx8, hc8, m8p, e86, nI_1p]
    · rw [e0] at e86
      rw [e1, show mv none = -9 from rfl] at e87
      have e86 : h.1 86 s = nI k := e86
      have hk := hM0 s k e0
      have n9 := mv_9 (k := k) (by omega)
      simp only [am_go_s, am_bd_none, am_bd_rt, am_bd_nx, am_bd_ite, am_1i_c, am_2i_c, am_1l_c, am_2l_c, am_li_c, am_1r_c, am_ri_c, am_rii_c, am_ril_c, am_vi_c, am_vl_c, am_vr_c, am_ob_c, am_ob_n, am_ob_ite, am_kk_i, am_kk_r, am_kk_l, am_kk_n, am_ui_1, am_ui_2, am_ul_1, am_ul_2, am_b0, am_tl_s, am_tl_n, am_jp, am_ic, am_ct_n, am_ct_c, am_10, am_01, am_b1, am_nn, or_true, or_false, true_or, false_or, Int32.reduceLT, Int32.reduceLE, Int32.reduceAdd, Int32.reduceSub, not_true_eq_false, not_false_eq_true, Nat.reduceAdd, Int.reduceAdd, Int.reduceNeg, Int.reduceLE, Int.reduceSub, Int.reduceToNat, if_true, if_false, ite_true, ite_false, Bool.or_false, Bool.false_or, Bool.or_true, Bool.true_or, Nat.reduceBEq, Nat.reduceEqDiff, reduceIte, eq_self, false_and, and_false, true_and, and_true, Bool.false_eq_true, Bool.true_eq_false, reduceCtorEq, dX9_findBoth_0, am_dx_aload_n_0, am_ld_0, dX9_findBoth_1, am_dx_iconst_0, dX9_findBoth_2, am_dx_invokevirtual, dX9_findBoth_5, am_dx_pop, dX9_findBoth_6, dX9_findBoth_7, am_dx_iconst_1, dX9_findBoth_8, dX9_findBoth_11, dX9_findBoth_12, dX9_findBoth_13, dX9_findBoth_14, am_dx_putfield, dX9_findBoth_17, dX9_findBoth_18, am_dx_istore_n_1, am_set_1, am_set_0, am_st1_1, am_lnl_1, dX9_findBoth_19, am_dx_iload_n_1, am_ld_1, dX9_findBoth_20, dX9_findBoth_21, am_dx_getfield, dX9_findBoth_24, dX9_findBoth_25, am_dx_iaload, dX9_findBoth_26, am_dx_if_icmp_ge, dX9_findBoth_29, dX9_findBoth_30, dX9_findBoth_33, dX9_findBoth_34, dX9_findBoth_35, am_dx_bipush_m9, dX9_findBoth_37, am_dx_if_icmp_eq, dX9_findBoth_40, dX9_findBoth_41, dX9_findBoth_44, am_dx_bipush_8, dX9_findBoth_46, dX9_findBoth_47, am_dx_iadd, dX9_findBoth_48, dX9_findBoth_49, dX9_findBoth_51, dX9_findBoth_54, dX9_findBoth_55, dX9_findBoth_58, dX9_findBoth_59, dX9_findBoth_62, dX9_findBoth_63, dX9_findBoth_66, dX9_findBoth_67, dX9_findBoth_68, am_dx_iastore, dX9_findBoth_69, dX9_findBoth_70, dX9_findBoth_73, dX9_findBoth_74, dX9_findBoth_77, dX9_findBoth_78, dX9_findBoth_81, dX9_findBoth_83, dX9_findBoth_84, dX9_findBoth_85, dX9_findBoth_86, dX9_findBoth_87, dX9_findBoth_88, am_dx_dup_i, am_dx_dup_r, dX9_findBoth_89, dX9_findBoth_92, dX9_findBoth_93, dX9_findBoth_94, dX9_findBoth_97, am_dx_iinc_1_1, dX9_findBoth_100, am_dx_goto, dX9_findBoth_103, dX9_findBoth_104, dX9_findBoth_105, am_dx_iconst_2, dX9_findBoth_106, dX9_findBoth_109, dX9_findBoth_110, dX9_findBoth_113, am_dx_ireturn, lX9_findBoth_248, am_cV_1, am_l0, am_l1, am_l2, am_l3, am_l4, lX9_findBoth_221, am_fr_9_18, am_fw_9_18, lX9_findBoth_7, am_fr_9_0, lX9_findBoth_35, am_fr_9_17, lX9_findBoth_38, am_fr_9_26, lX9_findBoth_41, am_fr_9_27, lX9_findBoth_228, am_cV_2, am_kd_77, am_gr_77_0, am_kd_78, am_gr_77_17, am_kd_86, am_gr_77_26, am_kd_87, am_gr_77_27, am_kd_88, q5, q6, x0, am_c0, hx, hcl, hx8, hc8, m8p, e86, e87, n9, nI_1p]
/-- the reference's both: the pairs of spots, their fit -/
theorem rl_fb {h : am_H} {M0 M1 : pm_M} {n m0 m1 : Nat} (z : rl_bd h M0 M1 n m0 m1) (k : am_H) (f : bs_fr h k) : ∃ h2, fX9_findBoth [.ref 77] k = some (some (.int (nI (pb M0 M1 n).length)), h2) ∧ mr_has h2 0 M0 ∧ mr_has h2 1 M1 ∧ rt_has h2 (pb M0 M1 n).length (ft_s ((pb M0 M1 n).map (rp_q h 1 2))) (ft_d ((pb M0 M1 n).map (rp_q h 1 2))) ∧ fb_fr k h2 := by
  obtain ⟨z1, z2, z3, z4, z5, -, z7⟩ := z
  obtain ⟨v1, v2, h1, h2, k1, k2, g0, g1, fb⟩ := z7 k f
  have hn := z1.1
  have b2 : bs_fr h h2 := bs_tr f (bs_rs (fb_rs fb))
  have hM0 : ∀ s k, M0 s = some k → k < 8 := fun s k e => by have := (z4.1 s k e).2; have := z2.1; omega
  have hM1 : ∀ s k, M1 s = some k → k < 8 := fun s k e => by have := (z5.1 s k e).2; have := z3.1; omega
  have r0 : am_Re GX9_findBoth cX9_findBoth (0, [some (.ref 77), none], [], k) (19, [some (.ref 77), some (.int (nI 0))], [], am_ui h2 77 18 0) := by
    refine am_Re_go (sp := [19]) 40 ?_
    simp only [am_go_s, am_bd_none, am_bd_rt, am_bd_nx, am_bd_ite, am_1i_c, am_2i_c, am_1l_c, am_2l_c, am_li_c, am_1r_c, am_ri_c, am_rii_c, am_ril_c, am_vi_c, am_vl_c, am_vr_c, am_ob_c, am_ob_n, am_ob_ite, am_kk_i, am_kk_r, am_kk_l, am_kk_n, am_ui_1, am_ui_2, am_ul_1, am_ul_2, am_b0, am_tl_s, am_tl_n, am_jp, am_ic, am_ct_n, am_ct_c, am_10, am_01, am_b1, am_nn, or_true, or_false, true_or, false_or, Int32.reduceLT, Int32.reduceLE, Int32.reduceAdd, Int32.reduceSub, not_true_eq_false, not_false_eq_true, Nat.reduceAdd, Int.reduceAdd, Int.reduceNeg, Int.reduceLE, Int.reduceSub, Int.reduceToNat, if_true, if_false, ite_true, ite_false, Bool.or_false, Bool.false_or, Bool.or_true, Bool.true_or, Nat.reduceBEq, Nat.reduceEqDiff, reduceIte, eq_self, false_and, and_false, true_and, and_true, Bool.false_eq_true, Bool.true_eq_false, reduceCtorEq, dX9_findBoth_0, am_dx_aload_n_0, am_ld_0, dX9_findBoth_1, am_dx_iconst_0, dX9_findBoth_2, am_dx_invokevirtual, dX9_findBoth_5, am_dx_pop, dX9_findBoth_6, dX9_findBoth_7, am_dx_iconst_1, dX9_findBoth_8, dX9_findBoth_11, dX9_findBoth_12, dX9_findBoth_13, dX9_findBoth_14, am_dx_putfield, dX9_findBoth_17, dX9_findBoth_18, am_dx_istore_n_1, am_set_1, am_set_0, am_st1_1, am_lnl_1, dX9_findBoth_19, am_dx_iload_n_1, am_ld_1, dX9_findBoth_20, dX9_findBoth_21, am_dx_getfield, dX9_findBoth_24, dX9_findBoth_25, am_dx_iaload, dX9_findBoth_26, am_dx_if_icmp_ge, dX9_findBoth_29, dX9_findBoth_30, dX9_findBoth_33, dX9_findBoth_34, dX9_findBoth_35, am_dx_bipush_m9, dX9_findBoth_37, am_dx_if_icmp_eq, dX9_findBoth_40, dX9_findBoth_41, dX9_findBoth_44, am_dx_bipush_8, dX9_findBoth_46, dX9_findBoth_47, am_dx_iadd, dX9_findBoth_48, dX9_findBoth_49, dX9_findBoth_51, dX9_findBoth_54, dX9_findBoth_55, dX9_findBoth_58, dX9_findBoth_59, dX9_findBoth_62, dX9_findBoth_63, dX9_findBoth_66, dX9_findBoth_67, dX9_findBoth_68, am_dx_iastore, dX9_findBoth_69, dX9_findBoth_70, dX9_findBoth_73, dX9_findBoth_74, dX9_findBoth_77, dX9_findBoth_78, dX9_findBoth_81, dX9_findBoth_83, dX9_findBoth_84, dX9_findBoth_85, dX9_findBoth_86, dX9_findBoth_87, dX9_findBoth_88, am_dx_dup_i, am_dx_dup_r, dX9_findBoth_89, dX9_findBoth_92, dX9_findBoth_93, dX9_findBoth_94, dX9_findBoth_97, am_dx_iinc_1_1, dX9_findBoth_100, am_dx_goto, dX9_findBoth_103, dX9_findBoth_104, dX9_findBoth_105, am_dx_iconst_2, dX9_findBoth_106, dX9_findBoth_109, dX9_findBoth_110, dX9_findBoth_113, am_dx_ireturn, lX9_findBoth_248, am_cV_1, am_l0, am_l1, am_l2, am_l3, am_l4, lX9_findBoth_221, am_fr_9_18, am_fw_9_18, lX9_findBoth_7, am_fr_9_0, lX9_findBoth_35, am_fr_9_17, lX9_findBoth_38, am_fr_9_26, lX9_findBoth_41, am_fr_9_27, lX9_findBoth_228, am_cV_2, am_kd_77, am_gr_77_0, am_kd_78, am_gr_77_17, am_kd_86, am_gr_77_26, am_kd_87, am_gr_77_27, am_kd_88, k1, k2, nI_0]
  have e78 : h2.1 78 0 = nI n := by rw [b2 78 (by omega)]; exact z1.2.2
  have f0 : pr_fr h2 (am_ui h2 77 18 0) := by
    refine ⟨rfl, fun a c1 c2 c3 => ?_, fun b hb => ?_⟩
    · funext z
      ((try simp only [am_ui_1, am_ui_2, true_and, and_true, and_self, if_true, reduceIte]); (repeat first | rw [if_neg (by omega)] | rw [if_pos (by omega)]); try rfl)
    · ((try simp only [am_ui_1, am_ui_2, true_and, and_true, and_self, if_true, reduceIte]); (repeat first | rw [if_neg (by omega)] | rw [if_pos (by omega)]); try rfl)
  have s0 : rp_has (am_ui h2 77 18 0) (pb M0 M1 0) := by
    refine ⟨?_, fun i a e => ?_⟩
    · rw [show (pb M0 M1 0).length = 0 from rfl]
      ((try simp only [am_ui_1, am_ui_2, true_and, and_true, and_self, if_true, reduceIte]); (repeat first | rw [if_neg (by omega)] | rw [if_pos (by omega)]); try rfl)
    · simp [pb] at e
  obtain ⟨h3, ⟨i1, i2⟩, r1⟩ := am_loopS (fun s h => (19, [some (.ref 77), some (.int (nI s))], [], h)) (fun s k => rp_has k (pb M0 M1 s) ∧ pr_fr h2 k) 0 n (by omega) (fun s _ hs k hI => b_s n hn M0 M1 hM0 hM1 h2 e78 g0 g1 s hs k hI.1 hI.2) (am_ui h2 77 18 0) ⟨s0, f0⟩
  have ll : (pb M0 M1 n).length ≤ 8 := by
    have := pb_le M0 M1 n
    omega
  obtain ⟨h4, t1, t2, t3, t4⟩ := m_X9_findFit 1 2 (by omega) (by omega) (pb M0 M1 n) ll h3 i1
  have eq : rp_q h3 1 2 = rp_q h 1 2 := rp_cg (by rw [i2.2.1 79 (by omega) (by omega) (by omega), b2 79 (by omega)]) (by rw [i2.2.1 80 (by omega) (by omega) (by omega), b2 80 (by omega)])
  rw [eq] at t2 t3
  have t1' : fX9_findFit [.ref 77, .int 1, .int 2] h3 = some (none, h4) := t1
  have c18 : h4.1 77 18 = nI (pb M0 M1 n).length := by rw [t4.1]; exact i1.1
  have e86 : h4.1 86 = h2.1 86 := by rw [t4.1, i2.2.1 86 (by omega) (by omega) (by omega)]
  refine ⟨h4, am_run2 _ rfl rfl rfl (r0 _ (r1 _ ?_)), fun s hs => by rw [e86]; exact g0 s hs, fun s hs => by rw [e86]; exact g1 s hs, ⟨c18, t2.1, t2.2.1, t2.2.2.1, t2.2.2.2, t3.1, t3.2.1, t3.2.2⟩, fb_tr fb ⟨fun a c1 c2 => ?_, fun a c1 => ?_, fun b c1 c2 => ?_⟩⟩
  · have q5 : h3.1 78 0 = nI n := by rw [i2.2.1 78 (by omega) (by omega) (by omega)]; exact e78
    have q6 := nIle' (a := n) (b := n) (by omega) (by omega)
    have x0 : ∀ z : am_S, am_ix 0 3 z = z := am_x3.1
    refine am_Big_end (sp := []) 40 ?_
    simp only [am_go_s, am_bd_none, am_bd_rt, am_bd_nx, am_bd_ite, am_1i_c, am_2i_c, am_1l_c, am_2l_c, am_li_c, am_1r_c, am_ri_c, am_rii_c, am_ril_c, am_vi_c, am_vl_c, am_vr_c, am_ob_c, am_ob_n, am_ob_ite, am_kk_i, am_kk_r, am_kk_l, am_kk_n, am_ui_1, am_ui_2, am_ul_1, am_ul_2, am_b0, am_tl_s, am_tl_n, am_jp, am_ic, am_ct_n, am_ct_c, am_10, am_01, am_b1, am_nn, or_true, or_false, true_or, false_or, Int32.reduceLT, Int32.reduceLE, Int32.reduceAdd, Int32.reduceSub, not_true_eq_false, not_false_eq_true, Nat.reduceAdd, Int.reduceAdd, Int.reduceNeg, Int.reduceLE, Int.reduceSub, Int.reduceToNat, if_true, if_false, ite_true, ite_false, Bool.or_false, Bool.false_or, Bool.or_true, Bool.true_or, Nat.reduceBEq, Nat.reduceEqDiff, reduceIte, eq_self, false_and, and_false, true_and, and_true, Bool.false_eq_true, Bool.true_eq_false, reduceCtorEq, dX9_findBoth_0, am_dx_aload_n_0, am_ld_0, dX9_findBoth_1, am_dx_iconst_0, dX9_findBoth_2, am_dx_invokevirtual, dX9_findBoth_5, am_dx_pop, dX9_findBoth_6, dX9_findBoth_7, am_dx_iconst_1, dX9_findBoth_8, dX9_findBoth_11, dX9_findBoth_12, dX9_findBoth_13, dX9_findBoth_14, am_dx_putfield, dX9_findBoth_17, dX9_findBoth_18, am_dx_istore_n_1, am_set_1, am_set_0, am_st1_1, am_lnl_1, dX9_findBoth_19, am_dx_iload_n_1, am_ld_1, dX9_findBoth_20, dX9_findBoth_21, am_dx_getfield, dX9_findBoth_24, dX9_findBoth_25, am_dx_iaload, dX9_findBoth_26, am_dx_if_icmp_ge, dX9_findBoth_29, dX9_findBoth_30, dX9_findBoth_33, dX9_findBoth_34, dX9_findBoth_35, am_dx_bipush_m9, dX9_findBoth_37, am_dx_if_icmp_eq, dX9_findBoth_40, dX9_findBoth_41, dX9_findBoth_44, am_dx_bipush_8, dX9_findBoth_46, dX9_findBoth_47, am_dx_iadd, dX9_findBoth_48, dX9_findBoth_49, dX9_findBoth_51, dX9_findBoth_54, dX9_findBoth_55, dX9_findBoth_58, dX9_findBoth_59, dX9_findBoth_62, dX9_findBoth_63, dX9_findBoth_66, dX9_findBoth_67, dX9_findBoth_68, am_dx_iastore, dX9_findBoth_69, dX9_findBoth_70, dX9_findBoth_73, dX9_findBoth_74, dX9_findBoth_77, dX9_findBoth_78, dX9_findBoth_81, dX9_findBoth_83, dX9_findBoth_84, dX9_findBoth_85, dX9_findBoth_86, dX9_findBoth_87, dX9_findBoth_88, am_dx_dup_i, am_dx_dup_r, dX9_findBoth_89, dX9_findBoth_92, dX9_findBoth_93, dX9_findBoth_94, dX9_findBoth_97, am_dx_iinc_1_1, dX9_findBoth_100, am_dx_goto, dX9_findBoth_103, dX9_findBoth_104, dX9_findBoth_105, am_dx_iconst_2, dX9_findBoth_106, dX9_findBoth_109, dX9_findBoth_110, dX9_findBoth_113, am_dx_ireturn, lX9_findBoth_248, am_cV_1, am_l0, am_l1, am_l2, am_l3, am_l4, lX9_findBoth_221, am_fr_9_18, am_fw_9_18, lX9_findBoth_7, am_fr_9_0, lX9_findBoth_35, am_fr_9_17, lX9_findBoth_38, am_fr_9_26, lX9_findBoth_41, am_fr_9_27, lX9_findBoth_228, am_cV_2, am_kd_77, am_gr_77_0, am_kd_78, am_gr_77_17, am_kd_86, am_gr_77_26, am_kd_87, am_gr_77_27, am_kd_88, q5, q6, x0, am_c0, t1', c18]
  · rw [t4.1, i2.2.1 a c1 (by omega) (by omega)]
  · funext b
    rw [t4.2 a b (by omega), i2.1]
  · rw [t4.1, i2.2.2 b c2]
