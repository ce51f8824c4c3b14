/-! fits: the spec; start, take -/
abbrev ft_q : Type := Int32 × Int32 × Int32 × Int32
abbrev ft_4 : Type := Int64 × Int64 × Int64 × Int64
def ft_a (s : ft_4) (q : ft_q) : ft_4 := (s.1 + q.1.toInt64, s.2.1 + q.2.1.toInt64, s.2.2.1 + q.2.2.1.toInt64, s.2.2.2 + q.2.2.2.toInt64)
def ft_s (Q : List ft_q) : ft_4 := Q.foldl ft_a (0, 0, 0, 0)
def ft_e (N : Int64) (S : ft_4) (q : ft_q) : ft_4 := (N * q.1.toInt64 - S.1, N * q.2.1.toInt64 - S.2.1, N * q.2.2.1.toInt64 - S.2.2.1, N * q.2.2.2.toInt64 - S.2.2.2)
/-- d, a, b -/
def ft_b (z : Int64 × Int64 × Int64) (e : ft_4) : Int64 × Int64 × Int64 := (z.1 + (e.1 * e.1 + e.2.1 * e.2.1), z.2.1 + (e.1 * e.2.2.1 + e.2.1 * e.2.2.2), z.2.2 + (e.1 * e.2.2.2 - e.2.1 * e.2.2.1))
def ft_d (Q : List ft_q) : Int64 × Int64 × Int64 := Q.foldl (fun z q => ft_b z (ft_e (nI Q.length).toInt64 (ft_s Q) q)) (0, 0, 0)
def ft_has (h : am_H) (Q : List ft_q) : Prop := h.1 64 4 = nI Q.length ∧ (∀ i q, Q[i]? = some q → h.1 65 i = q.1 ∧ h.1 66 i = q.2.1 ∧ h.1 67 i = q.2.2.1 ∧ h.1 68 i = q.2.2.2) ∧ h.2 64 5 = (ft_s Q).1 ∧ h.2 64 6 = (ft_s Q).2.1 ∧ h.2 64 7 = (ft_s Q).2.2.1 ∧ h.2 64 8 = (ft_s Q).2.2.2
def ft_fr (h k : am_H) : Prop := ∀ a, ¬ (64 ≤ a ∧ a ≤ 68) → k.1 a = h.1 a ∧ k.2 a = h.2 a
theorem ft_rf (h : am_H) : ft_fr h h := fun _ _ => ⟨rfl, rfl⟩
theorem ft_tr {a b c : am_H} (h1 : ft_fr a b) (h2 : ft_fr b c) : ft_fr a c := fun z hz => ⟨(h2 z hz).1.trans (h1 z hz).1, (h2 z hz).2.trans (h1 z hz).2⟩
theorem m_X2_start (h : am_H) : ∃ k, fX2_start [.ref 64] h = some (none, k) ∧ ft_has k [] ∧ ft_fr h k := by
  refine ⟨am_ul (am_ul (am_ul (am_ul (am_ui h 64 4 0) 64 5 0) 64 6 0) 64 7 0) 64 8 0, ?_, ⟨?_, ?_, ?_, ?_, ?_, ?_⟩, fun a ha => ⟨?_, ?_⟩⟩
  · refine am_run1 40 [some (.ref 64)] rfl rfl rfl ?_
    simp only [am_go_s, am_bd_none, am_bd_rt, am_bd_nx, am_bd_ite, am_1i_c, am_2i_c, am_1l_c, am_2l_c, am_li_c, am_1r_c, am_ri_c, am_rii_c, am_ril_c, am_vi_c, am_vl_c, am_vr_c, am_ob_c, am_ob_n, am_ob_ite, am_kk_i, am_kk_r, am_kk_l, am_kk_n, am_ui_1, am_ui_2, am_ul_1, am_ul_2, am_b0, am_tl_s, am_tl_n, am_jp, am_ic, am_ct_n, am_ct_c, am_10, am_01, am_b1, am_nn, or_true, or_false, true_or, false_or, Int32.reduceLT, Int32.reduceLE, Int32.reduceAdd, Int32.reduceSub, not_true_eq_false, not_false_eq_true, Nat.reduceAdd, Int.reduceAdd, Int.reduceNeg, Int.reduceLE, Int.reduceSub, Int.reduceToNat, if_true, if_false, ite_true, ite_false, Bool.or_false, Bool.false_or, Bool.or_true, Bool.true_or, Nat.reduceBEq, Nat.reduceEqDiff, reduceIte, eq_self, false_and, and_false, true_and, and_true, Bool.false_eq_true, Bool.true_eq_false, reduceCtorEq, dX2_start_0, am_dx_aload_n_0, am_ld_0, dX2_start_1, am_dx_iconst_0, dX2_start_2, am_dx_putfield, dX2_start_5, dX2_start_6, am_dx_lconst_0, dX2_start_7, dX2_start_10, dX2_start_11, dX2_start_12, dX2_start_15, dX2_start_16, dX2_start_17, dX2_start_20, dX2_start_21, dX2_start_22, dX2_start_25, am_dx_return, lX2_start_24, am_fr_2_4, am_fw_2_4, lX2_start_28, am_fr_2_5, am_fw_2_5, lX2_start_32, am_fr_2_6, am_fw_2_6, lX2_start_35, am_fr_2_7, am_fw_2_7, lX2_start_38, am_fr_2_8, am_fw_2_8, am_kd_64]
  · simp [am_ul, am_ui]
    rfl
  · intro i q e
    simp at e
  · simp [am_ul, am_ui, ft_s]
  · simp [am_ul, am_ui, ft_s]
  · simp [am_ul, am_ui, ft_s]
  · simp [am_ul, am_ui, ft_s]
  · funext b
    simp only [am_ul_1, am_ui_1]
    rw [if_neg (by omega)]
  · funext b
    simp only [am_ul_2, am_ui_2]
    rw [if_neg (by omega), if_neg (by omega), if_neg (by omega), if_neg (by omega)]
theorem ft_s_a (Q : List ft_q) (q : ft_q) : ft_s (Q ++ [q]) = ft_a (ft_s Q) q := by
  unfold ft_s
  rw [List.foldl_append]
  rfl
theorem m_X2_take (h : am_H) (Q : List ft_q) (hl : Q.length < 8) (r : ft_has h Q) (q : ft_q) : ∃ k, fX2_take [.ref 64, .int q.1, .int q.2.1, .int q.2.2.1, .int q.2.2.2] h = some (none, k) ∧ ft_has k (Q ++ [q]) ∧ ft_fr h k := by
  obtain ⟨r0, r1, r2, r3, r4, r5⟩ := r
  have q6 : nI Q.length < 8 := by
    rw [Int32.lt_iff_toInt_lt, nI_toInt (by omega)]
    have : (8 : Int32).toInt = 8 := by decide
    omega
  have hx : ∀ z : am_S, am_ix (nI Q.length) 8 z = z := fun z => am_ix_c hl (by omega)
  have hcl := am_clp hl (by omega)
  generalize hn : Q.length = n at *
  refine ⟨am_ul (am_ul (am_ul (am_ul (am_ui (am_ui (am_ui (am_ui (am_ui h 65 n q.1) 66 n q.2.1) 67 n q.2.2.1) 68 n q.2.2.2) 64 4 (nI (n + 1))) 64 5 (h.2 64 5 + q.1.toInt64)) 64 6 (h.2 64 6 + q.2.1.toInt64)) 64 7 (h.2 64 7 + q.2.2.1.toInt64)) 64 8 (h.2 64 8 + q.2.2.2.toInt64), ?_, ⟨?_, ?_, ?_, ?_, ?_, ?_⟩, fun a ha => ⟨?_, ?_⟩⟩
  · refine am_run1 80 [some (.ref 64), some (.int q.1), some (.int q.2.1), some (.int q.2.2.1), some (.int q.2.2.2)] rfl rfl rfl ?_
    simp only [am_go_s, am_bd_none, am_bd_rt, am_bd_nx, am_bd_ite, am_1i_c, am_2i_c, am_1l_c, am_2l_c, am_li_c, am_1r_c, am_ri_c, am_rii_c, am_ril_c, am_vi_c, am_vl_c, am_vr_c, am_ob_c, am_ob_n, am_ob_ite, am_kk_i, am_kk_r, am_kk_l, am_kk_n, am_ui_1, am_ui_2, am_ul_1, am_ul_2, am_b0, am_tl_s, am_tl_n, am_jp, am_ic, am_ct_n, am_ct_c, am_10, am_01, am_b1, am_nn, or_true, or_false, true_or, false_or, Int32.reduceLT, Int32.reduceLE, Int32.reduceAdd, Int32.reduceSub, not_true_eq_false, not_false_eq_true, Nat.reduceAdd, Int.reduceAdd, Int.reduceNeg, Int.reduceLE, Int.reduceSub, Int.reduceToNat, if_true, if_false, ite_true, ite_false, Bool.or_false, Bool.false_or, Bool.or_true, Bool.true_or, Nat.reduceBEq, Nat.reduceEqDiff, reduceIte, eq_self, false_and, and_false, true_and, and_true, Bool.false_eq_true, Bool.true_eq_false, reduceCtorEq, dX2_take_0, am_dx_aload_n_0, am_ld_0, dX2_take_1, am_dx_getfield, dX2_take_4, am_dx_bipush_8, dX2_take_6, am_dx_if_icmp_lt, dX2_take_9, am_dx_return, dX2_take_10, dX2_take_11, dX2_take_14, dX2_take_15, dX2_take_18, am_dx_iload_n_1, am_ld_1, dX2_take_19, am_dx_iastore, dX2_take_20, dX2_take_21, dX2_take_24, dX2_take_25, dX2_take_28, am_dx_iload_n_2, am_ld_2, dX2_take_29, dX2_take_30, dX2_take_31, dX2_take_34, dX2_take_35, dX2_take_38, am_dx_iload_n_3, am_ld_3, dX2_take_39, dX2_take_40, dX2_take_41, dX2_take_44, dX2_take_45, dX2_take_48, am_dx_iload_4, am_ld_4, dX2_take_50, dX2_take_51, dX2_take_52, am_dx_dup_i, am_dx_dup_r, dX2_take_53, dX2_take_56, am_dx_iconst_1, dX2_take_57, am_dx_iadd, dX2_take_58, am_dx_putfield, dX2_take_61, dX2_take_62, dX2_take_63, dX2_take_66, dX2_take_67, am_dx_i2l, dX2_take_68, am_dx_ladd, dX2_take_69, dX2_take_72, dX2_take_73, dX2_take_74, dX2_take_77, dX2_take_78, dX2_take_79, dX2_take_80, dX2_take_83, dX2_take_84, dX2_take_85, dX2_take_88, dX2_take_89, dX2_take_90, dX2_take_91, dX2_take_94, dX2_take_95, dX2_take_96, dX2_take_99, dX2_take_101, dX2_take_102, dX2_take_103, dX2_take_106, lX2_take_24, am_fr_2_4, am_fw_2_4, lX2_take_9, am_fr_2_0, lX2_take_15, am_fr_2_1, lX2_take_18, am_fr_2_2, lX2_take_21, am_fr_2_3, lX2_take_28, am_fr_2_5, am_fw_2_5, lX2_take_32, am_fr_2_6, am_fw_2_6, lX2_take_35, am_fr_2_7, am_fw_2_7, lX2_take_38, am_fr_2_8, am_fw_2_8, am_kd_64, am_gr_64_0, am_kd_65, am_gr_64_1, am_kd_66, am_gr_64_2, am_kd_67, am_gr_64_3, am_kd_68, r0, q6, hx, hcl, nI_1p]
  · rw [List.length_append, hn]
    simp [am_ul, am_ui]
  · intro i w e
    rw [List.getElem?_append] at e
    split at e
    · obtain ⟨g1, g2, g3, g4⟩ := r1 i w e
      simp only [am_ul_1, am_ui_1]
      refine ⟨?_, ?_, ?_, ?_⟩
      · rw [← g1]; (repeat first | rw [if_neg (by omega)] | rw [if_pos (by omega)])
      · rw [← g2]; (repeat first | rw [if_neg (by omega)] | rw [if_pos (by omega)])
      · rw [← g3]; (repeat first | rw [if_neg (by omega)] | rw [if_pos (by omega)])
      · rw [← g4]; (repeat first | rw [if_neg (by omega)] | rw [if_pos (by omega)])
    · have ee : i = n ∧ q = w := by
        rw [List.getElem?_cons] at e
        split at e
        · exact ⟨by omega, Option.some.inj e⟩
        · simp at e
      obtain ⟨rfl, rfl⟩ := ee
      simp [am_ul, am_ui]
  · rw [ft_s_a, ft_a, ← r2]
    simp [am_ul, am_ui]
  · rw [ft_s_a, ft_a, ← r3]
    simp [am_ul, am_ui]
  · rw [ft_s_a, ft_a, ← r4]
    simp [am_ul, am_ui]
  · rw [ft_s_a, ft_a, ← r5]
    simp [am_ul, am_ui]
  · funext b
    simp only [am_ul_1, am_ui_1]
    rw [if_neg (by omega), if_neg (by omega), if_neg (by omega), if_neg (by omega), if_neg (by omega)]
  · funext b
    simp only [am_ul_2, am_ui_2]
    rw [if_neg (by omega), if_neg (by omega), if_neg (by omega), if_neg (by omega)]
