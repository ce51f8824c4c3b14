/-! all triples of a group, in order -/
def tk (F : Nat → Nat → Nat → Option ts_R) (i j : Nat) : Nat → List ts_R
  | 0 => []
  | a + 1 => tk F i j a ++ (F i j (j + 1 + a)).toList
def tj (F : Nat → Nat → Nat → Option ts_R) (n i : Nat) : Nat → List ts_R
  | 0 => []
  | a + 1 => tj F n i a ++ tk F i (i + 1 + a) (n - (i + 1 + a + 1))
def ti (F : Nat → Nat → Nat → Option ts_R) (n : Nat) : Nat → List ts_R
  | 0 => []
  | a + 1 => ti F n a ++ tj F n a (n - (a + 1))
def cj (n i : Nat) : Nat → Nat
  | 0 => 0
  | a + 1 => cj n i a + (n - (i + 1 + a + 1))
def ci (n : Nat) : Nat → Nat
  | 0 => 0
  | a + 1 => ci n a + cj n a (n - (a + 1))
theorem ol_len {α : Type} (o : Option α) : o.toList.length ≤ 1 := by cases o <;> simp
theorem tk_len (F : Nat → Nat → Nat → Option ts_R) (i j a : Nat) : (tk F i j a).length ≤ a := by
  induction a with
  | zero => simp [tk]
  | succ a ih =>
    rw [tk, List.length_append]
    have := ol_len (F i j (j + 1 + a))
    omega
theorem tj_len (F : Nat → Nat → Nat → Option ts_R) (n i a : Nat) : (tj F n i a).length ≤ cj n i a := by
  induction a with
  | zero => simp [tj]
  | succ a ih =>
    rw [tj, List.length_append, cj]
    have := tk_len F i (i + 1 + a) (n - (i + 1 + a + 1))
    omega
theorem ti_len (F : Nat → Nat → Nat → Option ts_R) (n a : Nat) : (ti F n a).length ≤ ci n a := by
  induction a with
  | zero => simp [ti]
  | succ a ih =>
    rw [ti, List.length_append, ci]
    have := tj_len F n a (n - (a + 1))
    omega
theorem c_bd' : ∀ n : Fin 9, ∀ i j k : Fin 8, k.val < n.val → i.val < j.val → j.val < k.val → ci n.val i.val + cj n.val i.val (j.val - (i.val + 1)) + (k.val - (j.val + 1)) < 56 := by decide +kernel
theorem c_bd (n : Nat) (hn : n < 9) (i : Nat) (hi : i < n) (j : Nat) (hj : j < n) (k : Nat) (hk : k < n) (h1 : i < j) (h2 : j < k) : ci n i + cj n i (j - (i + 1)) + (k - (j + 1)) < 56 := c_bd' ⟨n, hn⟩ ⟨i, by omega⟩ ⟨j, by omega⟩ ⟨k, by omega⟩ hk h1 h2
theorem ci_bd : ∀ n, n < 9 → ci n n < 57 := by decide +kernel
/-- what has been met before i, j, k -/
def tp (F : Nat → Nat → Nat → Option ts_R) (n i j k : Nat) : List ts_R := ti F n i ++ tj F n i (j - (i + 1)) ++ tk F i j (k - (j + 1))
theorem tp_len (F : Nat → Nat → Nat → Option ts_R) {n i j k : Nat} (hn : n ≤ 8) (hij : i < j) (hjk : j < k) (hk : k < n) : (tp F n i j k).length < 56 := by
  have h1 := ti_len F n i
  have h2 := tj_len F n i (j - (i + 1))
  have h3 := tk_len F i j (k - (j + 1))
  have h4 := c_bd n (by omega) i (by omega) j (by omega) k hk hij hjk
  rw [tp, List.length_append, List.length_append]
  omega
theorem tp_k (F : Nat → Nat → Nat → Option ts_R) {n i j k : Nat} (hjk : j < k) : tp F n i j (k + 1) = tp F n i j k ++ (F i j k).toList := by
  unfold tp
  rw [show k + 1 - (j + 1) = (k - (j + 1)) + 1 by omega, tk, show j + 1 + (k - (j + 1)) = k by omega]
  simp only [List.append_assoc]
theorem tp_j (F : Nat → Nat → Nat → Option ts_R) {n i j : Nat} (hij : i < j) (hjn : j < n) : tp F n i j n = tp F n i (j + 1) (j + 2) := by
  unfold tp
  rw [show j + 1 - (i + 1) = (j - (i + 1)) + 1 by omega, tj, show i + 1 + (j - (i + 1)) = j by omega, show j + 2 - (j + 1 + 1) = 0 by omega, tk]
  simp only [List.append_assoc, List.append_nil]
theorem tp_j0 (F : Nat → Nat → Nat → Option ts_R) {n i j : Nat} : tp F n i j (j + 1) = ti F n i ++ tj F n i (j - (i + 1)) := by
  unfold tp
  rw [show j + 1 - (j + 1) = 0 by omega, tk, List.append_nil]
theorem tp_i (F : Nat → Nat → Nat → Option ts_R) {n i : Nat} (hi : i < n) : tp F n i n (n + 1) = ti F n (i + 1) := by
  rw [tp_j0, ti]
theorem tp_i0 (F : Nat → Nat → Nat → Option ts_R) {n i : Nat} : tp F n i (i + 1) (i + 1 + 1) = ti F n i := by
  rw [tp_j0, show i + 1 - (i + 1) = 0 by omega, tj, List.append_nil]
noncomputable def tf (h : am_H) (d : Nat) : Nat → Nat → Nat → Option ts_R := ts_tri (h.1 (d + 1)) (h.1 (d + 2))
theorem ss_se {s : Nat} (hs : ss_ok s) : se_ok (s + 1) := by
  obtain ⟨d0, d1, d2, d3, d4, d5, d6, d7, d8, d9, d10, d11, d12, d13, d14, d15, d16, d17, d18⟩ := hs
  exact ⟨d14, d15, d16, d17, d18⟩
theorem nIlt' {a b : Nat} (hb : b < 1000) (h : a < b) : ¬ nI b ≤ nI a := by
  rw [Int32.le_iff_toInt_le, nI_toInt (by omega), nI_toInt (by omega)]
  omega
theorem nIle' {a b : Nat} (ha : a < 1000) (h : b ≤ a) : nI b ≤ nI a := by
  rw [Int32.le_iff_toInt_le, nI_toInt (by omega), nI_toInt (by omega)]
  omega
theorem g_k (s : Nat) (hs : ss_ok s) (d : Nat) (hd : dt_ok d) (hsd : d + 3 < s) (F : Nat → Nat → Nat → Option ts_R) (n : Nat) (hn : n ≤ 8) (h0 : am_H) (hc : h0.1 d 3 = nI n) (hF : F = tf h0 d) (i j k : Nat) (hij : i < j) (hjk : j < k) (hkn : k < n) (h : am_H) (hh : sh_has h s (tp F n i j k)) (hf : gt_fr h0 h s) : ∃ h2, (sh_has h2 s (tp F n i j (k + 1)) ∧ gt_fr h0 h2 s) ∧ am_Re GX6_gather cX6_gather (32, [some (.ref s), some (.ref d), some (.int (nI i)), some (.int (nI j)), some (.int (nI k))], [], h) (32, [some (.ref s), some (.ref d), some (.int (nI i)), some (.int (nI j)), some (.int (nI (k + 1)))], [], h2) := by
  obtain ⟨h1, m1, m2, m3⟩ := m_X5_measure (s + 1) (ss_se hs) d hd (by omega) i j k (by omega) (by omega) (by omega) h
  have e1 : ts_tri (h.1 (d + 1)) (h.1 (d + 2)) i j k = F i j k := by
    rw [hF, tf, (hf (d + 1) (by omega)).1, (hf (d + 2) (by omega)).1]
  rw [e1] at m2
  obtain ⟨h2, k1, k2, k3⟩ := m_X6_append s hs h1 _ (tp_len F hn hij hjk hkn) _ m2 (sh_se m3 hh)
  refine ⟨h2, ⟨by rw [tp_k F hjk]; exact k2, gt_tr hf (gt_tr (gt_se m3) k3)⟩, ?_⟩
  have q1 := hs.1
  have q2 := hs.2.1
  have q3 := (ss_se hs).1
  have q4 := hd.1
  have q5 : h.1 d 3 = nI n := by rw [(hf d (by omega)).1]; exact hc
  have q6 := nIlt' (a := k) (b := n) (by omega) hkn
  refine am_Re_go (sp := [32]) 40 ?_
  simp only [am_go_s, am_bd_none, am_bd_rt, am_bd_nx, am_bd_ite, am_1i_c, am_2i_c, am_1l_c, am_2l_c, am_li_c, am_1r_c, am_ri_c, am_rii_c, am_ril_c, am_vi_c, am_vl_c, am_vr_c, am_ob_c, am_ob_n, am_ob_ite, am_kk_i, am_kk_r, am_kk_l, am_kk_n, am_ui_1, am_ui_2, am_ul_1, am_ul_2, am_b0, am_tl_s, am_tl_n, am_jp, am_ic, am_ct_n, am_ct_c, am_10, am_01, am_b1, am_nn, or_true, or_false, true_or, false_or, Int32.reduceLT, Int32.reduceLE, Int32.reduceAdd, Int32.reduceSub, not_true_eq_false, not_false_eq_true, Nat.reduceAdd, Int.reduceAdd, Int.reduceNeg, Int.reduceLE, Int.reduceSub, Int.reduceToNat, if_true, if_false, ite_true, ite_false, Bool.or_false, Bool.false_or, Bool.or_true, Bool.true_or, Nat.reduceBEq, Nat.reduceEqDiff, reduceIte, eq_self, false_and, and_false, true_and, and_true, Bool.false_eq_true, Bool.true_eq_false, reduceCtorEq, dX6_gather_0, am_dx_aload_n_0, am_ld_0, dX6_gather_1, am_dx_iconst_0, dX6_gather_2, am_dx_putfield, dX6_gather_5, dX6_gather_6, am_dx_istore_n_2, am_set_2, am_ld_1, am_set_1, am_st1_2, am_lnl_2, dX6_gather_7, am_dx_iload_n_2, am_ld_2, dX6_gather_8, am_dx_aload_n_1, dX6_gather_9, am_dx_getfield, dX6_gather_12, am_dx_if_icmp_ge, dX6_gather_15, dX6_gather_16, am_dx_iconst_1, dX6_gather_17, am_dx_iadd, dX6_gather_18, am_dx_istore_n_3, am_set_3, am_st1_3, am_lnl_3, dX6_gather_19, am_dx_iload_n_3, am_ld_3, dX6_gather_20, dX6_gather_21, dX6_gather_24, dX6_gather_27, dX6_gather_28, dX6_gather_29, dX6_gather_30, am_dx_istore_4, am_set_4, am_st1_4, am_lnl_4, dX6_gather_32, am_dx_iload_4, am_ld_4, dX6_gather_34, dX6_gather_35, dX6_gather_38, dX6_gather_41, dX6_gather_42, dX6_gather_45, dX6_gather_46, dX6_gather_47, dX6_gather_48, dX6_gather_50, am_dx_invokevirtual, dX6_gather_53, dX6_gather_54, dX6_gather_57, am_dx_iinc_4_1, dX6_gather_60, am_dx_goto, dX6_gather_63, am_dx_iinc_3_1, dX6_gather_66, dX6_gather_69, am_dx_iinc_2_1, dX6_gather_72, dX6_gather_75, am_dx_return, lX6_gather_37, am_fr_6_7, am_fw_6_7, lX6_gather_41, am_fr_1_3, am_fw_1_3, lX6_gather_12, am_fr_6_0, lX6_gather_44, am_cV_4, am_l0, am_l1, am_l2, am_l3, am_l4, lX6_gather_48, am_cV_0, q1, q2, q3, q4, q5, q6, m1, k1, nI_1p]
theorem g_j (s : Nat) (hs : ss_ok s) (d : Nat) (hd : dt_ok d) (hsd : d + 3 < s) (F : Nat → Nat → Nat → Option ts_R) (n : Nat) (hn : n ≤ 8) (h0 : am_H) (hc : h0.1 d 3 = nI n) (hF : F = tf h0 d) (i j : Nat) (hij : i < j) (hjn : j < n) (h : am_H) (x : Option Value) (hh : sh_has h s (tp F n i j (j + 1))) (hf : gt_fr h0 h s) : ∃ z : am_H × Option Value, (sh_has z.1 s (tp F n i (j + 1) (j + 1 + 1)) ∧ gt_fr h0 z.1 s) ∧ am_Re GX6_gather cX6_gather (19, [some (.ref s), some (.ref d), some (.int (nI i)), some (.int (nI j)), x], [], h) (19, [some (.ref s), some (.ref d), some (.int (nI i)), some (.int (nI (j + 1))), z.2], [], z.1) := by
  have q4 := hd.1
  have r1 : am_Re GX6_gather cX6_gather (19, [some (.ref s), some (.ref d), some (.int (nI i)), some (.int (nI j)), x], [], h) (32, [some (.ref s), some (.ref d), some (.int (nI i)), some (.int (nI j)), some (.int (nI (j + 1)))], [], h) := by
    have q5 : h.1 d 3 = nI n := by rw [(hf d (by omega)).1]; exact hc
    have q6 := nIlt' (a := j) (b := n) (by omega) hjn
    refine am_Re_go (sp := [32]) 40 ?_
    simp only [am_go_s, am_bd_none, am_bd_rt, am_bd_nx, am_bd_ite, am_1i_c, am_2i_c, am_1l_c, am_2l_c, am_li_c, am_1r_c, am_ri_c, am_rii_c, am_ril_c, am_vi_c, am_vl_c, am_vr_c, am_ob_c, am_ob_n, am_ob_ite, am_kk_i, am_kk_r, am_kk_l, am_kk_n, am_ui_1, am_ui_2, am_ul_1, am_ul_2, am_b0, am_tl_s, am_tl_n, am_jp, am_ic, am_ct_n, am_ct_c, am_10, am_01, am_b1, am_nn, or_true, or_false, true_or, false_or, Int32.reduceLT, Int32.reduceLE, Int32.reduceAdd, Int32.reduceSub, not_true_eq_false, not_false_eq_true, Nat.reduceAdd, Int.reduceAdd, Int.reduceNeg, Int.reduceLE, Int.reduceSub, Int.reduceToNat, if_true, if_false, ite_true, ite_false, Bool.or_false, Bool.false_or, Bool.or_true, Bool.true_or, Nat.reduceBEq, Nat.reduceEqDiff, reduceIte, eq_self, false_and, and_false, true_and, and_true, Bool.false_eq_true, Bool.true_eq_false, reduceCtorEq, dX6_gather_0, am_dx_aload_n_0, am_ld_0, dX6_gather_1, am_dx_iconst_0, dX6_gather_2, am_dx_putfield, dX6_gather_5, dX6_gather_6, am_dx_istore_n_2, am_set_2, am_ld_1, am_set_1, am_st1_2, am_lnl_2, dX6_gather_7, am_dx_iload_n_2, am_ld_2, dX6_gather_8, am_dx_aload_n_1, dX6_gather_9, am_dx_getfield, dX6_gather_12, am_dx_if_icmp_ge, dX6_gather_15, dX6_gather_16, am_dx_iconst_1, dX6_gather_17, am_dx_iadd, dX6_gather_18, am_dx_istore_n_3, am_set_3, am_st1_3, am_lnl_3, dX6_gather_19, am_dx_iload_n_3, am_ld_3, dX6_gather_20, dX6_gather_21, dX6_gather_24, dX6_gather_27, dX6_gather_28, dX6_gather_29, dX6_gather_30, am_dx_istore_4, am_set_4, am_st1_4, am_lnl_4, dX6_gather_32, am_dx_iload_4, am_ld_4, dX6_gather_34, dX6_gather_35, dX6_gather_38, dX6_gather_41, dX6_gather_42, dX6_gather_45, dX6_gather_46, dX6_gather_47, dX6_gather_48, dX6_gather_50, am_dx_invokevirtual, dX6_gather_53, dX6_gather_54, dX6_gather_57, am_dx_iinc_4_1, dX6_gather_60, am_dx_goto, dX6_gather_63, am_dx_iinc_3_1, dX6_gather_66, dX6_gather_69, am_dx_iinc_2_1, dX6_gather_72, dX6_gather_75, am_dx_return, lX6_gather_37, am_fr_6_7, am_fw_6_7, lX6_gather_41, am_fr_1_3, am_fw_1_3, lX6_gather_12, am_fr_6_0, lX6_gather_44, am_cV_4, am_l0, am_l1, am_l2, am_l3, am_l4, lX6_gather_48, am_cV_0, q4, q5, q6, nI_1p]
  obtain ⟨h2, ⟨i1, i2⟩, r2⟩ := am_loopS (fun k h => (32, [some (.ref s), some (.ref d), some (.int (nI i)), some (.int (nI j)), some (.int (nI k))], [], h)) (fun k h => sh_has h s (tp F n i j k) ∧ gt_fr h0 h s) (j + 1) n (by omega) (fun k hk hkn h2 hI => g_k s hs d hd hsd F n hn h0 hc hF i j k hij (by omega) hkn h2 hI.1 hI.2) h ⟨hh, hf⟩
  rw [tp_j F hij hjn] at i1
  refine ⟨(h2, some (.int (nI n))), ⟨i1, i2⟩, am_Re_tr r1 (am_Re_tr r2 ?_)⟩
  have q5 : h2.1 d 3 = nI n := by rw [(i2 d (by omega)).1]; exact hc
  have q6 := nIle' (a := n) (b := n) (by omega) (by omega)
  refine am_Re_go (sp := [19]) 40 ?_
  simp only [am_go_s, am_bd_none, am_bd_rt, am_bd_nx, am_bd_ite, am_1i_c, am_2i_c, am_1l_c, am_2l_c, am_li_c, am_1r_c, am_ri_c, am_rii_c, am_ril_c, am_vi_c, am_vl_c, am_vr_c, am_ob_c, am_ob_n, am_ob_ite, am_kk_i, am_kk_r, am_kk_l, am_kk_n, am_ui_1, am_ui_2, am_ul_1, am_ul_2, am_b0, am_tl_s, am_tl_n, am_jp, am_ic, am_ct_n, am_ct_c, am_10, am_01, am_b1, am_nn, or_true, or_false, true_or, false_or, Int32.reduceLT, Int32.reduceLE, Int32.reduceAdd, Int32.reduceSub, not_true_eq_false, not_false_eq_true, Nat.reduceAdd, Int.reduceAdd, Int.reduceNeg, Int.reduceLE, Int.reduceSub, Int.reduceToNat, if_true, if_false, ite_true, ite_false, Bool.or_false, Bool.false_or, Bool.or_true, Bool.true_or, Nat.reduceBEq, Nat.reduceEqDiff, reduceIte, eq_self, false_and, and_false, true_and, and_true, Bool.false_eq_true, Bool.true_eq_false, reduceCtorEq, dX6_gather_0, am_dx_aload_n_0, am_ld_0, dX6_gather_1, am_dx_iconst_0, dX6_gather_2, am_dx_putfield, dX6_gather_5, dX6_gather_6, am_dx_istore_n_2, am_set_2, am_ld_1, am_set_1, am_st1_2, am_lnl_2, dX6_gather_7, am_dx_iload_n_2, am_ld_2, dX6_gather_8, am_dx_aload_n_1, dX6_gather_9, am_dx_getfield, dX6_gather_12, am_dx_if_icmp_ge, dX6_gather_15, dX6_gather_16, am_dx_iconst_1, dX6_gather_17, am_dx_iadd, dX6_gather_18, am_dx_istore_n_3, am_set_3, am_st1_3, am_lnl_3, dX6_gather_19, am_dx_iload_n_3, am_ld_3, dX6_gather_20, dX6_gather_21, dX6_gather_24, dX6_gather_27, dX6_gather_28, dX6_gather_29, dX6_gather_30, am_dx_istore_4, am_set_4, am_st1_4, am_lnl_4, dX6_gather_32, am_dx_iload_4, am_ld_4, dX6_gather_34, dX6_gather_35, dX6_gather_38, dX6_gather_41, dX6_gather_42, dX6_gather_45, dX6_gather_46, dX6_gather_47, dX6_gather_48, dX6_gather_50, am_dx_invokevirtual, dX6_gather_53, dX6_gather_54, dX6_gather_57, am_dx_iinc_4_1, dX6_gather_60, am_dx_goto, dX6_gather_63, am_dx_iinc_3_1, dX6_gather_66, dX6_gather_69, am_dx_iinc_2_1, dX6_gather_72, dX6_gather_75, am_dx_return, lX6_gather_37, am_fr_6_7, am_fw_6_7, lX6_gather_41, am_fr_1_3, am_fw_1_3, lX6_gather_12, am_fr_6_0, lX6_gather_44, am_cV_4, am_l0, am_l1, am_l2, am_l3, am_l4, lX6_gather_48, am_cV_0, q4, q5, q6, nI_1p]
theorem g_i (s : Nat) (hs : ss_ok s) (d : Nat) (hd : dt_ok d) (hsd : d + 3 < s) (F : Nat → Nat → Nat → Option ts_R) (n : Nat) (hn : n ≤ 8) (h0 : am_H) (hc : h0.1 d 3 = nI n) (hF : F = tf h0 d) (i : Nat) (hi : i < n) (h : am_H) (y x : Option Value) (hh : sh_has h s (ti F n i)) (hf : gt_fr h0 h s) : ∃ z : am_H × Option Value × Option Value, (sh_has z.1 s (ti F n (i + 1)) ∧ gt_fr h0 z.1 s) ∧ am_Re GX6_gather cX6_gather (7, [some (.ref s), some (.ref d), some (.int (nI i)), y, x], [], h) (7, [some (.ref s), some (.ref d), some (.int (nI (i + 1))), z.2.1, z.2.2], [], z.1) := by
  have q4 := hd.1
  have r1 : am_Re GX6_gather cX6_gather (7, [some (.ref s), some (.ref d), some (.int (nI i)), y, x], [], h) (19, [some (.ref s), some (.ref d), some (.int (nI i)), some (.int (nI (i + 1))), x], [], h) := by
    have q5 : h.1 d 3 = nI n := by rw [(hf d (by omega)).1]; exact hc
    have q6 := nIlt' (a := i) (b := n) (by omega) hi
    refine am_Re_go (sp := [19]) 40 ?_
    simp only [am_go_s, am_bd_none, am_bd_rt, am_bd_nx, am_bd_ite, am_1i_c, am_2i_c, am_1l_c, am_2l_c, am_li_c, am_1r_c, am_ri_c, am_rii_c, am_ril_c, am_vi_c, am_vl_c, am_vr_c, am_ob_c, am_ob_n, am_ob_ite, am_kk_i, am_kk_r, am_kk_l, am_kk_n, am_ui_1, am_ui_2, am_ul_1, am_ul_2, am_b0, am_tl_s, am_tl_n, am_jp, am_ic, am_ct_n, am_ct_c, am_10, am_01, am_b1, am_nn, or_true, or_false, true_or, false_or, Int32.reduceLT, Int32.reduceLE, Int32.reduceAdd, Int32.reduceSub, not_true_eq_false, not_false_eq_true, Nat.reduceAdd, Int.reduceAdd, Int.reduceNeg, Int.reduceLE, Int.reduceSub, Int.reduceToNat, if_true, if_false, ite_true, ite_false, Bool.or_false, Bool.false_or, Bool.or_true, Bool.true_or, Nat.reduceBEq, Nat.reduceEqDiff, reduceIte, eq_self, false_and, and_false, true_and, and_true, Bool.false_eq_true, Bool.true_eq_false, reduceCtorEq, dX6_gather_0, am_dx_aload_n_0, am_ld_0, dX6_gather_1, am_dx_iconst_0, dX6_gather_2, am_dx_putfield, dX6_gather_5, dX6_gather_6, am_dx_istore_n_2, am_set_2, am_ld_1, am_set_1, am_st1_2, am_lnl_2, dX6_gather_7, am_dx_iload_n_2, am_ld_2, dX6_gather_8, am_dx_aload_n_1, dX6_gather_9, am_dx_getfield, dX6_gather_12, am_dx_if_icmp_ge, dX6_gather_15, dX6_gather_16, am_dx_iconst_1, dX6_gather_17, am_dx_iadd, dX6_gather_18, am_dx_istore_n_3, am_set_3, am_st1_3, am_lnl_3, dX6_gather_19, am_dx_iload_n_3, am_ld_3, dX6_gather_20, dX6_gather_21, dX6_gather_24, dX6_gather_27, dX6_gather_28, dX6_gather_29, dX6_gather_30, am_dx_istore_4, am_set_4, am_st1_4, am_lnl_4, dX6_gather_32, am_dx_iload_4, am_ld_4, dX6_gather_34, dX6_gather_35, dX6_gather_38, dX6_gather_41, dX6_gather_42, dX6_gather_45, dX6_gather_46, dX6_gather_47, dX6_gather_48, dX6_gather_50, am_dx_invokevirtual, dX6_gather_53, dX6_gather_54, dX6_gather_57, am_dx_iinc_4_1, dX6_gather_60, am_dx_goto, dX6_gather_63, am_dx_iinc_3_1, dX6_gather_66, dX6_gather_69, am_dx_iinc_2_1, dX6_gather_72, dX6_gather_75, am_dx_return, lX6_gather_37, am_fr_6_7, am_fw_6_7, lX6_gather_41, am_fr_1_3, am_fw_1_3, lX6_gather_12, am_fr_6_0, lX6_gather_44, am_cV_4, am_l0, am_l1, am_l2, am_l3, am_l4, lX6_gather_48, am_cV_0, q4, q5, q6, nI_1p]
  obtain ⟨⟨h2, x2⟩, ⟨i1, i2⟩, r2⟩ := am_loopS (fun j (z : am_H × Option Value) => (19, [some (.ref s), some (.ref d), some (.int (nI i)), some (.int (nI j)), z.2], [], z.1)) (fun j z => sh_has z.1 s (tp F n i j (j + 1)) ∧ gt_fr h0 z.1 s) (i + 1) n (by omega) (fun j hj hjn z hI => g_j s hs d hd hsd F n hn h0 hc hF i j (by omega) hjn z.1 z.2 hI.1 hI.2) (h, x) ⟨by rw [tp_i0]; exact hh, hf⟩
  rw [tp_i F hi] at i1
  refine ⟨(h2, some (.int (nI n)), x2), ⟨i1, i2⟩, am_Re_tr r1 (am_Re_tr r2 ?_)⟩
  have q5 : h2.1 d 3 = nI n := by rw [(i2 d (by omega)).1]; exact hc
  have q6 := nIle' (a := n) (b := n) (by omega) (by omega)
  refine am_Re_go (sp := [7]) 40 ?_
  simp only [am_go_s, am_bd_none, am_bd_rt, am_bd_nx, am_bd_ite, am_1i_c, am_2i_c, am_1l_c, am_2l_c, am_li_c, am_1r_c, am_ri_c, am_rii_c, am_ril_c, am_vi_c, am_vl_c, am_vr_c, am_ob_c, am_ob_n, am_ob_ite, am_kk_i, am_kk_r, am_kk_l, am_kk_n, am_ui_1, am_ui_2, am_ul_1, am_ul_2, am_b0, am_tl_s, am_tl_n, am_jp, am_ic, am_ct_n, am_ct_c, am_10, am_01, am_b1, am_nn, or_true, or_false, true_or, false_or, Int32.reduceLT, Int32.reduceLE, Int32.reduceAdd, Int32.reduceSub, not_true_eq_false, not_false_eq_true, Nat.reduceAdd, Int.reduceAdd, Int.reduceNeg, Int.reduceLE, Int.reduceSub, Int.reduceToNat, if_true, if_false, ite_true, ite_false, Bool.or_false, Bool.false_or, Bool.or_true, Bool.true_or, Nat.reduceBEq, Nat.reduceEqDiff, reduceIte, eq_self, false_and, and_false, true_and, and_true, Bool.false_eq_true, Bool.true_eq_false, reduceCtorEq, dX6_gather_0, am_dx_aload_n_0, am_ld_0, dX6_gather_1, am_dx_iconst_0, dX6_gather_2, am_dx_putfield, dX6_gather_5, dX6_gather_6, am_dx_istore_n_2, am_set_2, am_ld_1, am_set_1, am_st1_2, am_lnl_2, dX6_gather_7, am_dx_iload_n_2, am_ld_2, dX6_gather_8, am_dx_aload_n_1, dX6_gather_9, am_dx_getfield, dX6_gather_12, am_dx_if_icmp_ge, dX6_gather_15, dX6_gather_16, am_dx_iconst_1, dX6_gather_17, am_dx_iadd, dX6_gather_18, am_dx_istore_n_3, am_set_3, am_st1_3, am_lnl_3, dX6_gather_19, am_dx_iload_n_3, am_ld_3, dX6_gather_20, dX6_gather_21, dX6_gather_24, dX6_gather_27, dX6_gather_28, dX6_gather_29, dX6_gather_30, am_dx_istore_4, am_set_4, am_st1_4, am_lnl_4, dX6_gather_32, am_dx_iload_4, am_ld_4, dX6_gather_34, dX6_gather_35, dX6_gather_38, dX6_gather_41, dX6_gather_42, dX6_gather_45, dX6_gather_46, dX6_gather_47, dX6_gather_48, dX6_gather_50, am_dx_invokevirtual, dX6_gather_53, dX6_gather_54, dX6_gather_57, am_dx_iinc_4_1, dX6_gather_60, am_dx_goto, dX6_gather_63, am_dx_iinc_3_1, dX6_gather_66, dX6_gather_69, am_dx_iinc_2_1, dX6_gather_72, dX6_gather_75, am_dx_return, lX6_gather_37, am_fr_6_7, am_fw_6_7, lX6_gather_41, am_fr_1_3, am_fw_1_3, lX6_gather_12, am_fr_6_0, lX6_gather_44, am_cV_4, am_l0, am_l1, am_l2, am_l3, am_l4, lX6_gather_48, am_cV_0, q4, q5, q6, nI_1p]
theorem m_X6_gather (s : Nat) (hs : ss_ok s) (d : Nat) (hd : dt_ok d) (hsd : d + 3 < s) (n : Nat) (hn : n ≤ 8) (h : am_H) (hc : h.1 d 3 = nI n) : ∃ h2, fX6_gather [.ref s, .ref d] h = some (none, h2) ∧ sh_has h2 s (ti (tf h d) n n) ∧ gt_fr h h2 s := by
  have q4 := hd.1
  have q1 := hs.1
  have f1 : gt_fr h (am_ui h s 7 0) s := by
    intro a ha
    refine ⟨?_, ?_⟩
    · funext b
      ((try simp only [am_ui_1, am_ui_2, true_and, and_true, and_self, if_true, reduceIte]); (repeat first | rw [if_neg (by omega)] | rw [if_pos (by omega)]); try rfl)
    · funext b
      ((try simp only [am_ui_1, am_ui_2, true_and, and_true, and_self, if_true, reduceIte]); (repeat first | rw [if_neg (by omega)] | rw [if_pos (by omega)]); try rfl)
  have r1 : am_Re GX6_gather cX6_gather (0, [some (.ref s), some (.ref d), none, none, none], [], h) (7, [some (.ref s), some (.ref d), some (.int (nI 0)), none, none], [], am_ui h s 7 0) := by
    refine am_Re_go (sp := [7]) 20 ?_
    simp only [am_go_s, am_bd_none, am_bd_rt, am_bd_nx, am_bd_ite, am_1i_c, am_2i_c, am_1l_c, am_2l_c, am_li_c, am_1r_c, am_ri_c, am_rii_c, am_ril_c, am_vi_c, am_vl_c, am_vr_c, am_ob_c, am_ob_n, am_ob_ite, am_kk_i, am_kk_r, am_kk_l, am_kk_n, am_ui_1, am_ui_2, am_ul_1, am_ul_2, am_b0, am_tl_s, am_tl_n, am_jp, am_ic, am_ct_n, am_ct_c, am_10, am_01, am_b1, am_nn, or_true, or_false, true_or, false_or, Int32.reduceLT, Int32.reduceLE, Int32.reduceAdd, Int32.reduceSub, not_true_eq_false, not_false_eq_true, Nat.reduceAdd, Int.reduceAdd, Int.reduceNeg, Int.reduceLE, Int.reduceSub, Int.reduceToNat, if_true, if_false, ite_true, ite_false, Bool.or_false, Bool.false_or, Bool.or_true, Bool.true_or, Nat.reduceBEq, Nat.reduceEqDiff, reduceIte, eq_self, false_and, and_false, true_and, and_true, Bool.false_eq_true, Bool.true_eq_false, reduceCtorEq, dX6_gather_0, am_dx_aload_n_0, am_ld_0, dX6_gather_1, am_dx_iconst_0, dX6_gather_2, am_dx_putfield, dX6_gather_5, dX6_gather_6, am_dx_istore_n_2, am_set_2, am_ld_1, am_set_1, am_st1_2, am_lnl_2, dX6_gather_7, am_dx_iload_n_2, am_ld_2, dX6_gather_8, am_dx_aload_n_1, dX6_gather_9, am_dx_getfield, dX6_gather_12, am_dx_if_icmp_ge, dX6_gather_15, dX6_gather_16, am_dx_iconst_1, dX6_gather_17, am_dx_iadd, dX6_gather_18, am_dx_istore_n_3, am_set_3, am_st1_3, am_lnl_3, dX6_gather_19, am_dx_iload_n_3, am_ld_3, dX6_gather_20, dX6_gather_21, dX6_gather_24, dX6_gather_27, dX6_gather_28, dX6_gather_29, dX6_gather_30, am_dx_istore_4, am_set_4, am_st1_4, am_lnl_4, dX6_gather_32, am_dx_iload_4, am_ld_4, dX6_gather_34, dX6_gather_35, dX6_gather_38, dX6_gather_41, dX6_gather_42, dX6_gather_45, dX6_gather_46, dX6_gather_47, dX6_gather_48, dX6_gather_50, am_dx_invokevirtual, dX6_gather_53, dX6_gather_54, dX6_gather_57, am_dx_iinc_4_1, dX6_gather_60, am_dx_goto, dX6_gather_63, am_dx_iinc_3_1, dX6_gather_66, dX6_gather_69, am_dx_iinc_2_1, dX6_gather_72, dX6_gather_75, am_dx_return, lX6_gather_37, am_fr_6_7, am_fw_6_7, lX6_gather_41, am_fr_1_3, am_fw_1_3, lX6_gather_12, am_fr_6_0, lX6_gather_44, am_cV_4, am_l0, am_l1, am_l2, am_l3, am_l4, lX6_gather_48, am_cV_0, q1, nI_0]
  have s1 : sh_has (am_ui h s 7 0) s (ti (tf h d) n 0) := by
    refine ⟨?_, fun a v e => ?_⟩
    · rw [ti]
      ((try simp only [am_ui_1, am_ui_2, true_and, and_true, and_self, if_true, reduceIte]); (repeat first | rw [if_neg (by omega)] | rw [if_pos (by omega)]); try rfl)
    · rw [ti] at e
      simp at e
  obtain ⟨⟨h2, y2, x2⟩, ⟨i1, i2⟩, r2⟩ := am_loopS (fun i (z : am_H × Option Value × Option Value) => (7, [some (.ref s), some (.ref d), some (.int (nI i)), z.2.1, z.2.2], [], z.1)) (fun i z => sh_has z.1 s (ti (tf h d) n i) ∧ gt_fr h z.1 s) 0 n (by omega) (fun i hi0 hi z hI => g_i s hs d hd hsd _ n hn h hc rfl i hi z.1 z.2.1 z.2.2 hI.1 hI.2) (am_ui h s 7 0, none, none) ⟨s1, f1⟩
  refine ⟨h2, am_run2 _ rfl rfl rfl (r1 _ (r2 _ ?_)), i1, i2⟩
  have q5 : h2.1 d 3 = nI n := by rw [(i2 d (by omega)).1]; exact hc
  have q6 := nIle' (a := n) (b := n) (by omega) (by omega)
  refine am_Big_end (sp := []) 20 ?_
  simp only [am_go_s, am_bd_none, am_bd_rt, am_bd_nx, am_bd_ite, am_1i_c, am_2i_c, am_1l_c, am_2l_c, am_li_c, am_1r_c, am_ri_c, am_rii_c, am_ril_c, am_vi_c, am_vl_c, am_vr_c, am_ob_c, am_ob_n, am_ob_ite, am_kk_i, am_kk_r, am_kk_l, am_kk_n, am_ui_1, am_ui_2, am_ul_1, am_ul_2, am_b0, am_tl_s, am_tl_n, am_jp, am_ic, am_ct_n, am_ct_c, am_10, am_01, am_b1, am_nn, or_true, or_false, true_or, false_or, Int32.reduceLT, Int32.reduceLE, Int32.reduceAdd, Int32.reduceSub, not_true_eq_false, not_false_eq_true, Nat.reduceAdd, Int.reduceAdd, Int.reduceNeg, Int.reduceLE, Int.reduceSub, Int.reduceToNat, if_true, if_false, ite_true, ite_false, Bool.or_false, Bool.false_or, Bool.or_true, Bool.true_or, Nat.reduceBEq, Nat.reduceEqDiff, reduceIte, eq_self, false_and, and_false, true_and, and_true, Bool.false_eq_true, Bool.true_eq_false, reduceCtorEq, dX6_gather_0, am_dx_aload_n_0, am_ld_0, dX6_gather_1, am_dx_iconst_0, dX6_gather_2, am_dx_putfield, dX6_gather_5, dX6_gather_6, am_dx_istore_n_2, am_set_2, am_ld_1, am_set_1, am_st1_2, am_lnl_2, dX6_gather_7, am_dx_iload_n_2, am_ld_2, dX6_gather_8, am_dx_aload_n_1, dX6_gather_9, am_dx_getfield, dX6_gather_12, am_dx_if_icmp_ge, dX6_gather_15, dX6_gather_16, am_dx_iconst_1, dX6_gather_17, am_dx_iadd, dX6_gather_18, am_dx_istore_n_3, am_set_3, am_st1_3, am_lnl_3, dX6_gather_19, am_dx_iload_n_3, am_ld_3, dX6_gather_20, dX6_gather_21, dX6_gather_24, dX6_gather_27, dX6_gather_28, dX6_gather_29, dX6_gather_30, am_dx_istore_4, am_set_4, am_st1_4, am_lnl_4, dX6_gather_32, am_dx_iload_4, am_ld_4, dX6_gather_34, dX6_gather_35, dX6_gather_38, dX6_gather_41, dX6_gather_42, dX6_gather_45, dX6_gather_46, dX6_gather_47, dX6_gather_48, dX6_gather_50, am_dx_invokevirtual, dX6_gather_53, dX6_gather_54, dX6_gather_57, am_dx_iinc_4_1, dX6_gather_60, am_dx_goto, dX6_gather_63, am_dx_iinc_3_1, dX6_gather_66, dX6_gather_69, am_dx_iinc_2_1, dX6_gather_72, dX6_gather_75, am_dx_return, lX6_gather_37, am_fr_6_7, am_fw_6_7, lX6_gather_41, am_fr_1_3, am_fw_1_3, lX6_gather_12, am_fr_6_0, lX6_gather_44, am_cV_4, am_l0, am_l1, am_l2, am_l3, am_l4, lX6_gather_48, am_cV_0, q4, q5, q6]
