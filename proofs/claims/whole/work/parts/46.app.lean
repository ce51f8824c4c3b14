/-! a row of triples: append, puts -/
def sh_at (h : am_H) (s a : Nat) (v : ts_R) : Prop := h.1 (s + 4) a = nI v.2.2.2.1 ∧ h.1 (s + 5) a = nI v.2.2.2.2.1 ∧ h.1 (s + 6) a = nI v.2.2.2.2.2 ∧ h.1 (s + 7) a = v.1 ∧ h.1 (s + 8) a = v.2.1 ∧ h.1 (s + 9) a = v.2.2.1
def sh_has (h : am_H) (s : Nat) (l : List ts_R) : Prop := h.1 s 7 = nI l.length ∧ ∀ a v, l[a]? = some v → sh_at h s a v
def gt_fr (h k : am_H) (s : Nat) : Prop := ∀ a, ¬ (s ≤ a ∧ a ≤ s + 9) → k.1 a = h.1 a ∧ k.2 a = h.2 a
theorem gt_rf (h : am_H) (s : Nat) : gt_fr h h s := fun _ _ => ⟨rfl, rfl⟩
theorem gt_tr {a b c : am_H} {s : Nat} (h1 : gt_fr a b s) (h2 : gt_fr b c s) : gt_fr a c s := fun z hz => ⟨(h2 z hz).1.trans (h1 z hz).1, (h2 z hz).2.trans (h1 z hz).2⟩
theorem gt_se {h k : am_H} {s : Nat} (f : se_fr h k (s + 1)) : gt_fr h k s := fun a ha => f.1 a (by omega)
theorem sh_se {h k : am_H} {s : Nat} {l : List ts_R} (f : se_fr h k (s + 1)) (r : sh_has h s l) : sh_has k s l := by
  refine ⟨by rw [(f.1 s (by omega)).1]; exact r.1, fun a v e => ?_⟩
  have := r.2 a v e
  unfold sh_at at *
  rw [(f.1 (s + 4) (by omega)).1, (f.1 (s + 5) (by omega)).1, (f.1 (s + 6) (by omega)).1, (f.1 (s + 7) (by omega)).1, (f.1 (s + 8) (by omega)).1, (f.1 (s + 9) (by omega)).1]
  exact this
theorem m_app0 (s : Nat) (hs : ss_ok s) (h : am_H) (h2 : h.1 (s + 1) 2 = 1) : fX6_append [.ref s] h = some (none, h) := by
  obtain ⟨d0, d1, d2, d3, d4, d5, d6, d7, d8, d9, d10, d11, d12, d13, d14, d15, d16, d17, d18⟩ := hs
  refine am_run1 60 [some (.ref s)] rfl rfl rfl ?_
  simp only [am_go_s, am_bd_none, am_bd_rt, am_bd_nx, am_bd_ite, am_1i_c, am_2i_c, am_1l_c, am_2l_c, am_li_c, am_1r_c, am_ri_c, am_rii_c, am_ril_c, am_vi_c, am_vl_c, am_vr_c, am_ob_c, am_ob_n, am_ob_ite, am_kk_i, am_kk_r, am_kk_l, am_kk_n, am_ui_1, am_ui_2, am_ul_1, am_ul_2, am_b0, am_tl_s, am_tl_n, am_jp, am_ic, am_ct_n, am_ct_c, am_10, am_01, am_b1, am_nn, or_true, or_false, true_or, false_or, Int32.reduceLT, Int32.reduceLE, Int32.reduceAdd, Int32.reduceSub, not_true_eq_false, not_false_eq_true, Nat.reduceAdd, Int.reduceAdd, Int.reduceNeg, Int.reduceLE, Int.reduceSub, Int.reduceToNat, if_true, if_false, ite_true, ite_false, Bool.or_false, Bool.false_or, Bool.or_true, Bool.true_or, Nat.reduceBEq, Nat.reduceEqDiff, reduceIte, eq_self, false_and, and_false, true_and, and_true, Bool.false_eq_true, Bool.true_eq_false, reduceCtorEq, dX6_append_0, am_dx_aload_n_0, am_ld_0, dX6_append_1, am_dx_getfield, dX6_append_4, dX6_append_7, am_dx_ifCond_ne, dX6_append_10, dX6_append_11, dX6_append_14, am_dx_bipush_56, dX6_append_16, am_dx_if_icmp_lt, dX6_append_19, am_dx_return, dX6_append_20, dX6_append_21, dX6_append_24, dX6_append_25, dX6_append_28, dX6_append_29, dX6_append_32, dX6_append_35, am_dx_iconst_0, dX6_append_36, am_dx_iaload, dX6_append_37, am_dx_iastore, dX6_append_38, dX6_append_39, dX6_append_42, dX6_append_43, dX6_append_46, dX6_append_47, dX6_append_50, dX6_append_53, am_dx_iconst_1, dX6_append_54, dX6_append_55, dX6_append_56, dX6_append_57, dX6_append_60, dX6_append_61, dX6_append_64, dX6_append_65, dX6_append_68, dX6_append_71, am_dx_iconst_2, dX6_append_72, dX6_append_73, dX6_append_74, dX6_append_75, dX6_append_78, dX6_append_79, dX6_append_82, dX6_append_83, dX6_append_86, dX6_append_89, dX6_append_90, dX6_append_91, dX6_append_94, dX6_append_95, dX6_append_98, dX6_append_99, dX6_append_102, dX6_append_105, dX6_append_106, dX6_append_107, dX6_append_110, dX6_append_111, dX6_append_114, dX6_append_115, dX6_append_118, dX6_append_121, dX6_append_122, dX6_append_123, am_dx_dup_i, am_dx_dup_r, dX6_append_124, dX6_append_127, dX6_append_128, am_dx_iadd, dX6_append_129, am_dx_putfield, dX6_append_132, lX6_append_12, am_fr_6_0, lX6_append_51, am_fr_5_2, am_fw_5_2, lX6_append_37, am_fr_6_7, am_fw_6_7, lX6_append_18, am_fr_6_1, lX6_append_55, am_fr_5_0, lX6_append_22, am_fr_6_2, lX6_append_25, am_fr_6_3, lX6_append_28, am_fr_6_4, lX6_append_58, am_fr_5_3, am_fw_5_3, lX6_append_31, am_fr_6_5, lX6_append_60, am_fr_5_4, am_fw_5_4, lX6_append_34, am_fr_6_6, lX6_append_62, am_fr_5_5, am_fw_5_5, d0, d1, d14, h2]
theorem nI_1p {c : Nat} : nI c + 1 = nI (c + 1) := by
  rw [show (1 : Int32) = nI 1 from rfl, nI_add]
theorem m_app1 (s : Nat) (hs : ss_ok s) (h : am_H) (c : Nat) (hc : c < 56) (h2 : h.1 (s + 1) 2 = 0) (e : h.1 s 7 = nI c) : fX6_append [.ref s] h = some (none, am_ui (am_ui (am_ui (am_ui (am_ui (am_ui (am_ui h (s + 4) c (h.1 (s + 2) 0)) (s + 5) c (h.1 (s + 2) 1)) (s + 6) c (h.1 (s + 2) 2)) (s + 7) c (h.1 (s + 1) 3)) (s + 8) c (h.1 (s + 1) 4)) (s + 9) c (h.1 (s + 1) 5)) s 7 (nI (c + 1))) := by
  obtain ⟨d0, d1, d2, d3, d4, d5, d6, d7, d8, d9, d10, d11, d12, d13, d14, d15, d16, d17, d18⟩ := hs
  obtain ⟨x0, x1, x2⟩ := am_x3
  have hx : ∀ z : am_S, am_ix (nI c) 56 z = z := fun z => am_ix_c hc (by omega)
  have hcl := am_clp hc (by omega)
  have hlt : nI c < 56 := by
    rw [Int32.lt_iff_toInt_lt, nI_toInt (by omega)]
    have : (56 : Int32).toInt = 56 := by decide
    omega
  refine am_run1 90 [some (.ref s)] rfl rfl rfl ?_
  simp only [am_go_s, am_bd_none, am_bd_rt, am_bd_nx, am_bd_ite, am_1i_c, am_2i_c, am_1l_c, am_2l_c, am_li_c, am_1r_c, am_ri_c, am_rii_c, am_ril_c, am_vi_c, am_vl_c, am_vr_c, am_ob_c, am_ob_n, am_ob_ite, am_kk_i, am_kk_r, am_kk_l, am_kk_n, am_ui_1, am_ui_2, am_ul_1, am_ul_2, am_b0, am_tl_s, am_tl_n, am_jp, am_ic, am_ct_n, am_ct_c, am_10, am_01, am_b1, am_nn, or_true, or_false, true_or, false_or, Int32.reduceLT, Int32.reduceLE, Int32.reduceAdd, Int32.reduceSub, not_true_eq_false, not_false_eq_true, Nat.reduceAdd, Int.reduceAdd, Int.reduceNeg, Int.reduceLE, Int.reduceSub, Int.reduceToNat, if_true, if_false, ite_true, ite_false, Bool.or_false, Bool.false_or, Bool.or_true, Bool.true_or, Nat.reduceBEq, Nat.reduceEqDiff, reduceIte, eq_self, false_and, and_false, true_and, and_true, Bool.false_eq_true, Bool.true_eq_false, reduceCtorEq, dX6_append_0, am_dx_aload_n_0, am_ld_0, dX6_append_1, am_dx_getfield, dX6_append_4, dX6_append_7, am_dx_ifCond_ne, dX6_append_10, dX6_append_11, dX6_append_14, am_dx_bipush_56, dX6_append_16, am_dx_if_icmp_lt, dX6_append_19, am_dx_return, dX6_append_20, dX6_append_21, dX6_append_24, dX6_append_25, dX6_append_28, dX6_append_29, dX6_append_32, dX6_append_35, am_dx_iconst_0, dX6_append_36, am_dx_iaload, dX6_append_37, am_dx_iastore, dX6_append_38, dX6_append_39, dX6_append_42, dX6_append_43, dX6_append_46, dX6_append_47, dX6_append_50, dX6_append_53, am_dx_iconst_1, dX6_append_54, dX6_append_55, dX6_append_56, dX6_append_57, dX6_append_60, dX6_append_61, dX6_append_64, dX6_append_65, dX6_append_68, dX6_append_71, am_dx_iconst_2, dX6_append_72, dX6_append_73, dX6_append_74, dX6_append_75, dX6_append_78, dX6_append_79, dX6_append_82, dX6_append_83, dX6_append_86, dX6_append_89, dX6_append_90, dX6_append_91, dX6_append_94, dX6_append_95, dX6_append_98, dX6_append_99, dX6_append_102, dX6_append_105, dX6_append_106, dX6_append_107, dX6_append_110, dX6_append_111, dX6_append_114, dX6_append_115, dX6_append_118, dX6_append_121, dX6_append_122, dX6_append_123, am_dx_dup_i, am_dx_dup_r, dX6_append_124, dX6_append_127, dX6_append_128, am_dx_iadd, dX6_append_129, am_dx_putfield, dX6_append_132, lX6_append_12, am_fr_6_0, lX6_append_51, am_fr_5_2, am_fw_5_2, lX6_append_37, am_fr_6_7, am_fw_6_7, lX6_append_18, am_fr_6_1, lX6_append_55, am_fr_5_0, lX6_append_22, am_fr_6_2, lX6_append_25, am_fr_6_3, lX6_append_28, am_fr_6_4, lX6_append_58, am_fr_5_3, am_fw_5_3, lX6_append_31, am_fr_6_5, lX6_append_60, am_fr_5_4, am_fw_5_4, lX6_append_34, am_fr_6_6, lX6_append_62, am_fr_5_5, am_fw_5_5, d0, d1, d2, d3, d4, d5, d6, d7, d8, d9, d10, d11, d12, d13, d14, d15, d17, h2, e, x0, x1, x2, am_c0, am_c1, am_c2, hx, hcl, hlt, nI_1p, am_ne_0_1, am_ne_0_2, am_ne_0_3, am_ne_0_4, am_ne_0_5, am_ne_0_6, am_ne_0_7, am_ne_0_8, am_ne_0_9, am_ne_1_0, am_ne_1_2, am_ne_1_3, am_ne_1_4, am_ne_1_5, am_ne_1_6, am_ne_1_7, am_ne_1_8, am_ne_1_9, am_ne_2_0, am_ne_2_1, am_ne_2_3, am_ne_2_4, am_ne_2_5, am_ne_2_6, am_ne_2_7, am_ne_2_8, am_ne_2_9, am_ne_3_0, am_ne_3_1, am_ne_3_2, am_ne_3_4, am_ne_3_5, am_ne_3_6, am_ne_3_7, am_ne_3_8, am_ne_3_9, am_ne_4_0, am_ne_4_1, am_ne_4_2, am_ne_4_3, am_ne_4_5, am_ne_4_6, am_ne_4_7, am_ne_4_8, am_ne_4_9, am_ne_5_0, am_ne_5_1, am_ne_5_2, am_ne_5_3, am_ne_5_4, am_ne_5_6, am_ne_5_7, am_ne_5_8, am_ne_5_9, am_ne_6_0, am_ne_6_1, am_ne_6_2, am_ne_6_3, am_ne_6_4, am_ne_6_5, am_ne_6_7, am_ne_6_8, am_ne_6_9, am_ne_7_0, am_ne_7_1, am_ne_7_2, am_ne_7_3, am_ne_7_4, am_ne_7_5, am_ne_7_6, am_ne_7_8, am_ne_7_9, am_ne_8_0, am_ne_8_1, am_ne_8_2, am_ne_8_3, am_ne_8_4, am_ne_8_5, am_ne_8_6, am_ne_8_7, am_ne_8_9, am_ne_9_0, am_ne_9_1, am_ne_9_2, am_ne_9_3, am_ne_9_4, am_ne_9_5, am_ne_9_6, am_ne_9_7, am_ne_9_8]
theorem m_X6_append (s : Nat) (hs : ss_ok s) (h : am_H) (l : List ts_R) (hl : l.length < 56) (o : Option ts_R) (hr : se_res h (s + 1) o) (hh : sh_has h s l) : ∃ k, fX6_append [.ref s] h = some (none, k) ∧ sh_has k s (l ++ o.toList) ∧ gt_fr h k s := by
  rcases hr with ⟨rfl, r0⟩ | ⟨v, rfl, r0, r1, r2, r3, r4, r5, r6⟩
  · refine ⟨h, m_app0 s hs h r0, ?_, gt_rf h s⟩
    rw [Option.toList_none, List.append_nil]
    exact hh
  · refine ⟨_, m_app1 s hs h l.length hl r0 hh.1, ⟨?_, ?_⟩, ?_⟩
    · rw [List.length_append]
      simp only [am_ui_1]
      simp
    · intro a w ha
      rw [List.getElem?_append] at ha
      split at ha
      · have hb := hh.2 a w ha
        unfold sh_at at *
        obtain ⟨q1, q2, q3, q4, q5, q6⟩ := hb
        refine ⟨?_, ?_, ?_, ?_, ?_, ?_⟩
        · rw [← q1]; ((try simp only [am_ui_1, am_ui_2, true_and, and_true, and_self, if_true, reduceIte]); (repeat first | rw [if_neg (by omega)] | rw [if_pos (by omega)]); try rfl)
        · rw [← q2]; ((try simp only [am_ui_1, am_ui_2, true_and, and_true, and_self, if_true, reduceIte]); (repeat first | rw [if_neg (by omega)] | rw [if_pos (by omega)]); try rfl)
        · rw [← q3]; ((try simp only [am_ui_1, am_ui_2, true_and, and_true, and_self, if_true, reduceIte]); (repeat first | rw [if_neg (by omega)] | rw [if_pos (by omega)]); try rfl)
        · rw [← q4]; ((try simp only [am_ui_1, am_ui_2, true_and, and_true, and_self, if_true, reduceIte]); (repeat first | rw [if_neg (by omega)] | rw [if_pos (by omega)]); try rfl)
        · rw [← q5]; ((try simp only [am_ui_1, am_ui_2, true_and, and_true, and_self, if_true, reduceIte]); (repeat first | rw [if_neg (by omega)] | rw [if_pos (by omega)]); try rfl)
        · rw [← q6]; ((try simp only [am_ui_1, am_ui_2, true_and, and_true, and_self, if_true, reduceIte]); (repeat first | rw [if_neg (by omega)] | rw [if_pos (by omega)]); try rfl)
      · have e : a = l.length ∧ v = w := by
          simp only [Option.toList_some] at ha
          rw [List.getElem?_cons] at ha
          split at ha
          · exact ⟨by omega, Option.some.inj ha⟩
          · simp at ha
        obtain ⟨rfl, rfl⟩ := e
        unfold sh_at
        refine ⟨?_, ?_, ?_, ?_, ?_, ?_⟩
        · rw [← r4]; ((try simp only [am_ui_1, am_ui_2, true_and, and_true, and_self, if_true, reduceIte]); (repeat first | rw [if_neg (by omega)] | rw [if_pos (by omega)]); try rfl)
        · rw [← r5]; ((try simp only [am_ui_1, am_ui_2, true_and, and_true, and_self, if_true, reduceIte]); (repeat first | rw [if_neg (by omega)] | rw [if_pos (by omega)]); try rfl)
        · rw [← r6]; ((try simp only [am_ui_1, am_ui_2, true_and, and_true, and_self, if_true, reduceIte]); (repeat first | rw [if_neg (by omega)] | rw [if_pos (by omega)]); try rfl)
        · rw [← r1]; ((try simp only [am_ui_1, am_ui_2, true_and, and_true, and_self, if_true, reduceIte]); (repeat first | rw [if_neg (by omega)] | rw [if_pos (by omega)]); try rfl)
        · rw [← r2]; ((try simp only [am_ui_1, am_ui_2, true_and, and_true, and_self, if_true, reduceIte]); (repeat first | rw [if_neg (by omega)] | rw [if_pos (by omega)]); try rfl)
        · rw [← r3]; ((try simp only [am_ui_1, am_ui_2, true_and, and_true, and_self, if_true, reduceIte]); (repeat first | rw [if_neg (by omega)] | rw [if_pos (by omega)]); try rfl)
    · intro a ha
      refine ⟨?_, ?_⟩
      · funext b
        ((try simp only [am_ui_1, am_ui_2, true_and, and_true, and_self, if_true, reduceIte]); (repeat first | rw [if_neg (by omega)] | rw [if_pos (by omega)]); try rfl)
      · funext b
        ((try simp only [am_ui_1, am_ui_2, true_and, and_true, and_self, if_true, reduceIte]); (repeat first | rw [if_neg (by omega)] | rw [if_pos (by omega)]); try rfl)
/-- the reference's row of triples -/
def rw_at (h : am_H) (c a : Nat) (v : ts_R) : Prop := h.1 c (6 * a) = v.1 ∧ h.1 c (6 * a + 1) = v.2.1 ∧ h.1 c (6 * a + 2) = v.2.2.1 ∧ h.1 c (6 * a + 3) = nI v.2.2.2.1 ∧ h.1 c (6 * a + 4) = nI v.2.2.2.2.1 ∧ h.1 c (6 * a + 5) = nI v.2.2.2.2.2
def rw_has (h : am_H) (c : Nat) (l : List ts_R) : Prop := ∀ a v, l[a]? = some v → rw_at h c a v
theorem nI_p {c d : Nat} : nI c + nI d = nI (c + d) := nI_add ..
theorem m_X9_puts (c : Nat) (hc : c = 83 ∨ c = 84) (a : Nat) (ha : a < 56) (x0 x1 x2 x3 x4 x5 : Int32) (h : am_H) : fX9_puts [.ref c, .int (nI (6 * a)), .int x0, .int x1, .int x2, .int x3, .int x4, .int x5] h = some (none, am_ui (am_ui (am_ui (am_ui (am_ui (am_ui h c (6 * a) x0) c (6 * a + 1) x1) c (6 * a + 2) x2) c (6 * a + 3) x3) c (6 * a + 4) x4) c (6 * a + 5) x5) := by
  have k0 : am_kd c = (20, 336) := by rcases hc with rfl | rfl <;> rfl
  have i0 : ∀ z : am_S, am_ix (nI (6 * a)) 336 z = z := fun z => am_ix_c (by omega) (by omega)
  have i1 : ∀ z : am_S, am_ix (nI (6 * a + 1)) 336 z = z := fun z => am_ix_c (by omega) (by omega)
  have i2 : ∀ z : am_S, am_ix (nI (6 * a + 2)) 336 z = z := fun z => am_ix_c (by omega) (by omega)
  have i3 : ∀ z : am_S, am_ix (nI (6 * a + 3)) 336 z = z := fun z => am_ix_c (by omega) (by omega)
  have i4 : ∀ z : am_S, am_ix (nI (6 * a + 4)) 336 z = z := fun z => am_ix_c (by omega) (by omega)
  have i5 : ∀ z : am_S, am_ix (nI (6 * a + 5)) 336 z = z := fun z => am_ix_c (by omega) (by omega)
  have c0 : (nI (6 * a)).toNatClampNeg = 6 * a := am_clp (n := 336) (by omega) (by omega)
  have c1 : (nI (6 * a + 1)).toNatClampNeg = 6 * a + 1 := am_clp (n := 336) (by omega) (by omega)
  have c2 : (nI (6 * a + 2)).toNatClampNeg = 6 * a + 2 := am_clp (n := 336) (by omega) (by omega)
  have c3 : (nI (6 * a + 3)).toNatClampNeg = 6 * a + 3 := am_clp (n := 336) (by omega) (by omega)
  have c4 : (nI (6 * a + 4)).toNatClampNeg = 6 * a + 4 := am_clp (n := 336) (by omega) (by omega)
  have c5 : (nI (6 * a + 5)).toNatClampNeg = 6 * a + 5 := am_clp (n := 336) (by omega) (by omega)
  have p1 : nI (6 * a) + 1 = nI (6 * a + 1) := nI_p (d := 1)
  have p2 : nI (6 * a) + 2 = nI (6 * a + 2) := nI_p (d := 2)
  have p3 : nI (6 * a) + 3 = nI (6 * a + 3) := nI_p (d := 3)
  have p4 : nI (6 * a) + 4 = nI (6 * a + 4) := nI_p (d := 4)
  have p5 : nI (6 * a) + 5 = nI (6 * a + 5) := nI_p (d := 5)
  refine am_run1 60 [some (.ref c), some (.int (nI (6 * a))), some (.int x0), some (.int x1), some (.int x2), some (.int x3), some (.int x4), some (.int x5)] rfl rfl rfl ?_
  simp only [am_go_s, am_bd_none, am_bd_rt, am_bd_nx, am_bd_ite, am_1i_c, am_2i_c, am_1l_c, am_2l_c, am_li_c, am_1r_c, am_ri_c, am_rii_c, am_ril_c, am_vi_c, am_vl_c, am_vr_c, am_ob_c, am_ob_n, am_ob_ite, am_kk_i, am_kk_r, am_kk_l, am_kk_n, am_ui_1, am_ui_2, am_ul_1, am_ul_2, am_b0, am_tl_s, am_tl_n, am_jp, am_ic, am_ct_n, am_ct_c, am_10, am_01, am_b1, am_nn, or_true, or_false, true_or, false_or, Int32.reduceLT, Int32.reduceLE, Int32.reduceAdd, Int32.reduceSub, not_true_eq_false, not_false_eq_true, Nat.reduceAdd, Int.reduceAdd, Int.reduceNeg, Int.reduceLE, Int.reduceSub, Int.reduceToNat, if_true, if_false, ite_true, ite_false, Bool.or_false, Bool.false_or, Bool.or_true, Bool.true_or, Nat.reduceBEq, Nat.reduceEqDiff, reduceIte, eq_self, false_and, and_false, true_and, and_true, Bool.false_eq_true, Bool.true_eq_false, reduceCtorEq, dX9_puts_0, am_dx_aload_n_0, am_ld_0, dX9_puts_1, am_dx_iload_n_1, am_ld_1, dX9_puts_2, am_dx_iload_n_2, am_ld_2, dX9_puts_3, am_dx_iastore, dX9_puts_4, dX9_puts_5, dX9_puts_6, am_dx_iconst_1, dX9_puts_7, am_dx_iadd, dX9_puts_8, am_dx_iload_n_3, am_ld_3, dX9_puts_9, dX9_puts_10, dX9_puts_11, dX9_puts_12, am_dx_iconst_2, dX9_puts_13, dX9_puts_14, am_dx_iload_4, am_ld_4, dX9_puts_16, dX9_puts_17, dX9_puts_18, dX9_puts_19, am_dx_iconst_3, dX9_puts_20, dX9_puts_21, am_dx_iload_5, am_ld_5, dX9_puts_23, dX9_puts_24, dX9_puts_25, dX9_puts_26, am_dx_iconst_4, dX9_puts_27, dX9_puts_28, am_dx_iload_6, am_ld_6, dX9_puts_30, dX9_puts_31, dX9_puts_32, dX9_puts_33, am_dx_iconst_5, dX9_puts_34, dX9_puts_35, am_dx_iload_7, am_ld_7, dX9_puts_37, dX9_puts_38, am_dx_return, am_kd_77, k0, i0, i1, i2, i3, i4, i5, c0, c1, c2, c3, c4, c5, p1, p2, p3, p4, p5]
theorem rw_puts {h : am_H} {c : Nat} {l : List ts_R} {v : ts_R} (r : rw_has h c l) : rw_has (am_ui (am_ui (am_ui (am_ui (am_ui (am_ui h c (6 * l.length) v.1) c (6 * l.length + 1) v.2.1) c (6 * l.length + 2) v.2.2.1) c (6 * l.length + 3) (nI v.2.2.2.1)) c (6 * l.length + 4) (nI v.2.2.2.2.1)) c (6 * l.length + 5) (nI v.2.2.2.2.2)) c (l ++ [v]) := by
  intro a w ha
  rw [List.getElem?_append] at ha
  split at ha
  · have hb := r a w ha
    unfold rw_at at *
    obtain ⟨q1, q2, q3, q4, q5, q6⟩ := hb
    refine ⟨?_, ?_, ?_, ?_, ?_, ?_⟩
    · rw [← q1]; ((try simp only [am_ui_1, am_ui_2, true_and, and_true, and_self, if_true, reduceIte]); (repeat first | rw [if_neg (by omega)] | rw [if_pos (by omega)]); try rfl)
    · rw [← q2]; ((try simp only [am_ui_1, am_ui_2, true_and, and_true, and_self, if_true, reduceIte]); (repeat first | rw [if_neg (by omega)] | rw [if_pos (by omega)]); try rfl)
    · rw [← q3]; ((try simp only [am_ui_1, am_ui_2, true_and, and_true, and_self, if_true, reduceIte]); (repeat first | rw [if_neg (by omega)] | rw [if_pos (by omega)]); try rfl)
    · rw [← q4]; ((try simp only [am_ui_1, am_ui_2, true_and, and_true, and_self, if_true, reduceIte]); (repeat first | rw [if_neg (by omega)] | rw [if_pos (by omega)]); try rfl)
    · rw [← q5]; ((try simp only [am_ui_1, am_ui_2, true_and, and_true, and_self, if_true, reduceIte]); (repeat first | rw [if_neg (by omega)] | rw [if_pos (by omega)]); try rfl)
    · rw [← q6]; ((try simp only [am_ui_1, am_ui_2, true_and, and_true, and_self, if_true, reduceIte]); (repeat first | rw [if_neg (by omega)] | rw [if_pos (by omega)]); try rfl)
  · have e : a = l.length ∧ v = w := by
      rw [List.getElem?_cons] at ha
      split at ha
      · exact ⟨by omega, Option.some.inj ha⟩
      · simp at ha
    obtain ⟨rfl, rfl⟩ := e
    unfold rw_at
    refine ⟨?_, ?_, ?_, ?_, ?_, ?_⟩
    all_goals ((try simp only [am_ui_1, am_ui_2, true_and, and_true, and_self, if_true, reduceIte]); (repeat first | rw [if_neg (by omega)] | rw [if_pos (by omega)]); try rfl)
