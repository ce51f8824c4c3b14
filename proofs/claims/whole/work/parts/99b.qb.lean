/-! the fit between the plates; carried -/
theorem bq_cg {h k : am_H} (f : ∀ a, a ≤ 31 → k.1 a = h.1 a) : bq k = bq h := by
  funext a
  unfold bq
  rw [f 6 (by omega), f 7 (by omega), f 10 (by omega), f 11 (by omega)]
theorem rl_qb {h : am_H} (r : Rl h) {n m0 m1 : Nat} (z1 : rl_n h 0 n) (z2 : rl_n h 1 m0) (z3 : rl_n h 2 m1) {M0 M1 : pm_M} (o0 : pm_ok n m0 M0) (o1 : pm_ok n m1 M1) : (pb M0 M1 n).map (rp_q h 1 2) = (pb M0 M1 n).map (bq h) ∧ ((pb M0 M1 n).map (bq h)).length = (pb M0 M1 n).length ∧ (∀ w, w ∈ (pb M0 M1 n).map (bq h) → fq_b w) ∧ (2 ≤ (pb M0 M1 n).length → 0 < (ft_d ((pb M0 M1 n).map (bq h))).1 ∧ fo ((pb M0 M1 n).map (bq h))) ∧ (ft_d ((pb M0 M1 n).map (bq h))).1.toInt ≤ 800000000000 := by
  obtain ⟨n', hn, a1, a2, a3, a4⟩ := r.1 1 (by omega)
  obtain ⟨m', hm, b1, b2, b3, b4⟩ := r.1 2 (by omega)
  have en : n' = m0 := nI_i (by omega) (by have := z2.1; omega) (a1.symm.trans z2.2.1)
  subst en
  have hn8 := z1.1
  have hm8 := z2.1
  have hm18 := z3.1
  have hb0 := rl_b (fun j hj => (a4 j hj).2.2.2)
  have hb1 := rl_b (fun j hj => (b4 j hj).2.2.2)
  have hl : ((pb M0 M1 n).map (bq h)).length = (pb M0 M1 n).length := List.length_map _
  have hl8 : ((pb M0 M1 n).map (bq h)).length ≤ 8 := by
    rw [hl]
    have := pb_le M0 M1 n
    omega
  have hin : ∀ k l, (k, l) ∈ pb M0 M1 n → k < n' ∧ l < m1 := by
    intro k l hkl
    obtain ⟨s, h1, h2, h3⟩ := pb_in.mp hkl
    exact ⟨(o0.1 s k h2).2, (o1.1 s l h3).2⟩
  have hbb : ∀ w, w ∈ (pb M0 M1 n).map (bq h) → fq_b w := by
    intro w hw
    obtain ⟨⟨k, l⟩, h1, rfl⟩ := List.mem_map.mp hw
    obtain ⟨lk, ll⟩ := hin k l h1
    exact ⟨hb0.1 k (by omega), hb0.2 k (by omega), hb1.1 l (by omega), hb1.2 l (by omega)⟩
  obtain ⟨p1, p2, p3⟩ := ft_pos _ hl8 hbb
  refine ⟨?_, hl, hbb, fun h2 => ?_, p2⟩
  · refine List.map_congr_left (fun a ha => ?_)
    obtain ⟨k, l⟩ := a
    obtain ⟨lk, ll⟩ := hin k l ha
    have c1 := a4 k (by omega)
    have c2 := b4 l (by omega)
    unfold rp_q bq
    dsimp only
    rw [c1.1, c1.2.1, c2.1, c2.2.1]
  · obtain ⟨s, k, l, t, k2, l2, e1, e2, e3, e4, e5, e6⟩ := pb_2 h2
    have nk : k ≠ k2 := fun e => by
      subst e
      have := o0.2 s t k e3 e5
      omega
    have lk := (o0.1 s k e3).2
    have lk2 := (o0.1 t k2 e5).2
    have ap : ¬ ((bq h (k, l)).1 = (bq h (k2, l2)).1 ∧ (bq h (k, l)).2.1 = (bq h (k2, l2)).2.1) := by
      rcases Nat.lt_or_gt_of_ne nk with c | c
      · exact a3 k k2 c lk2
      · intro e
        exact a3 k2 k c lk ⟨e.1.symm, e.2.symm⟩
    have d0 := p3 (bq h (k, l)) (bq h (k2, l2)) (List.mem_map.mpr ⟨_, pb_in.mpr ⟨s, by omega, e3, e4⟩, rfl⟩) (List.mem_map.mpr ⟨_, pb_in.mpr ⟨t, e2, e5, e6⟩, rfl⟩) ap
    refine ⟨?_, fo_of _ hl8 (by omega) d0 p2⟩
    rw [Int64.lt_iff_toInt_lt, Int64.toInt_zero]
    exact d0
theorem r_carried (s ax : Int32) : Sm fX8_carried fX9_carried [.int s, .int ax] := by
  intro h r
  obtain ⟨M0, M1, n, m0, m1, z⟩ := rl_both r
  have z' := z
  obtain ⟨z1, z2, z3, z4, z5, z6, z7⟩ := z
  have hn8 := z1.1
  have t3 : fX1_has [.ref 5, .int s] h = _ := w_X1_has 5 (dt_g (g := 1) (by omega)) s h
  rw [show h.1 5 3 = nI m0 from z2.2.1] at t3
  have t4 : ∀ g : am_H, g.1 78 1 = nI m0 → fX9_isThing [.ref 77, .int 1, .int s] g = _ := fun g => w_X9_isThing 1 (by omega) s g m0 z2.1
  have d5 : am_kd 5 = (1, 4) := rfl
  have g0 : am_gr 21 0 = 5 := rfl
  have x0 := ix2.1
  rcases th_cases s z2.1 with b2 | ⟨ss, hss, rfl, b2⟩
  · have t4h := t4 h z2.2.2
    refine ⟨.long (-9223372036854775808), h, h, ?_, ?_, r⟩
    · refine am_run1 60 [some (.ref 0), some (.int s), some (.int ax)] rfl rfl rfl ?_
      simp only [am_go_s, am_bd_none, am_bd_rt, am_bd_nx, am_bd_ite, am_1i_c, am_2i_c, am_1l_c, am_2l_c, am_li_c, am_1r_c, am_ri_c, am_rii_c, am_ril_c, am_vi_c, am_vl_c, am_vr_c, am_ob_c, am_ob_n, am_ob_ite, am_kk_i, am_kk_r, am_kk_l, am_kk_n, am_ui_1, am_ui_2, am_ul_1, am_ul_2, am_b0, am_tl_s, am_tl_n, am_jp, am_ic, am_ct_n, am_ct_c, am_10, am_01, am_b1, am_nn, or_true, or_false, true_or, false_or, Int32.reduceLT, Int32.reduceLE, Int32.reduceAdd, Int32.reduceSub, not_true_eq_false, not_false_eq_true, Nat.reduceAdd, Int.reduceAdd, Int.reduceNeg, Int.reduceLE, Int.reduceSub, Int.reduceToNat, if_true, if_false, ite_true, ite_false, Bool.or_false, Bool.false_or, Bool.or_true, Bool.true_or, Nat.reduceBEq, Nat.reduceEqDiff, reduceIte, eq_self, false_and, and_false, true_and, and_true, Bool.false_eq_true, Bool.true_eq_false, reduceCtorEq, dX8_carried_0, am_dx_aload_n_0, am_ld_0, dX8_carried_1, am_dx_getfield, dX8_carried_4, am_dx_iconst_0, dX8_carried_5, am_dx_aaload, dX8_carried_6, am_dx_iload_n_1, am_ld_1, dX8_carried_7, am_dx_invokevirtual, dX8_carried_10, am_dx_ifCond_eq, dX8_carried_13, am_dx_iload_n_2, am_ld_2, dX8_carried_14, dX8_carried_15, am_dx_iconst_1, dX8_carried_16, am_dx_invokestatic, dX8_carried_19, am_dx_ifCond_ne, dX8_carried_22, am_dx_ldc2_w, dX8_carried_25, am_dx_lreturn, dX8_carried_26, dX8_carried_27, dX8_carried_28, dX8_carried_31, dX8_carried_32, dX8_carried_33, dX8_carried_36, dX8_carried_37, dX8_carried_40, dX8_carried_43, dX8_carried_46, dX8_carried_47, dX8_carried_48, dX8_carried_51, dX8_carried_52, dX8_carried_55, dX8_carried_56, dX8_carried_57, dX8_carried_60, dX8_carried_61, am_dx_iaload, dX8_carried_62, dX8_carried_63, dX8_carried_66, dX8_carried_67, dX8_carried_68, dX8_carried_71, dX8_carried_72, dX8_carried_73, dX8_carried_74, dX8_carried_77, lX8_carried_18, am_fr_8_1, lX8_carried_92, am_cV_1, am_l0, am_l1, am_l2, am_l3, am_l4, lX8_carried_76, am_cS_3, lX8_carried_179, lX8_carried_169, lX8_carried_224, am_cV_0, lX8_carried_65, am_fr_8_9, lX8_carried_198, am_fr_1_0, lX8_carried_201, am_fr_1_1, lX8_carried_204, am_cV_3, am_kd_0, am_gr_0_1, am_kd_21, am_gr_0_9, am_kd_64, x0, am_c0, g0, d5, t3, b2]
    · refine am_run1 60 [some (.ref 77), some (.int s), some (.int ax)] rfl rfl rfl ?_
      simp only [am_go_s, am_bd_none, am_bd_rt, am_bd_nx, am_bd_ite, am_1i_c, am_2i_c, am_1l_c, am_2l_c, am_li_c, am_1r_c, am_ri_c, am_rii_c, am_ril_c, am_vi_c, am_vl_c, am_vr_c, am_ob_c, am_ob_n, am_ob_ite, am_kk_i, am_kk_r, am_kk_l, am_kk_n, am_ui_1, am_ui_2, am_ul_1, am_ul_2, am_b0, am_tl_s, am_tl_n, am_jp, am_ic, am_ct_n, am_ct_c, am_10, am_01, am_b1, am_nn, or_true, or_false, true_or, false_or, Int32.reduceLT, Int32.reduceLE, Int32.reduceAdd, Int32.reduceSub, not_true_eq_false, not_false_eq_true, Nat.reduceAdd, Int.reduceAdd, Int.reduceNeg, Int.reduceLE, Int.reduceSub, Int.reduceToNat, if_true, if_false, ite_true, ite_false, Bool.or_false, Bool.false_or, Bool.or_true, Bool.true_or, Nat.reduceBEq, Nat.reduceEqDiff, reduceIte, eq_self, false_and, and_false, true_and, and_true, Bool.false_eq_true, Bool.true_eq_false, reduceCtorEq, dX9_carried_0, am_dx_aload_n_0, am_ld_0, dX9_carried_1, am_dx_iconst_1, dX9_carried_2, am_dx_iload_n_1, am_ld_1, dX9_carried_3, am_dx_invokevirtual, dX9_carried_6, am_dx_ifCond_eq, dX9_carried_9, am_dx_iload_n_2, am_ld_2, dX9_carried_10, am_dx_iconst_0, dX9_carried_11, dX9_carried_12, am_dx_invokestatic, dX9_carried_15, dX9_carried_18, dX9_carried_19, dX9_carried_22, dX9_carried_23, am_dx_if_icmp_le, dX9_carried_26, dX9_carried_27, dX9_carried_28, dX9_carried_29, dX9_carried_30, dX9_carried_33, am_dx_goto, dX9_carried_36, am_dx_ldc2_w, dX9_carried_39, am_dx_lreturn, lX9_carried_94, am_cV_2, am_l0, am_l1, am_l2, am_l3, am_l4, lX9_carried_75, am_cS_3, lX9_carried_263, am_cV_0, lX9_carried_232, am_cV_3, lX9_carried_251, am_kd_77, t4h, b2]
  · by_cases ba : ax < 0 ∨ 1 < ax
    · have t4h := t4 h z2.2.2
      refine ⟨.long (-9223372036854775808), h, h, ?_, ?_, r⟩
      · refine am_run1 60 [some (.ref 0), some (.int (nI ss)), some (.int ax)] rfl rfl rfl ?_
        simp only [am_go_s, am_bd_none, am_bd_rt, am_bd_nx, am_bd_ite, am_1i_c, am_2i_c, am_1l_c, am_2l_c, am_li_c, am_1r_c, am_ri_c, am_rii_c, am_ril_c, am_vi_c, am_vl_c, am_vr_c, am_ob_c, am_ob_n, am_ob_ite, am_kk_i, am_kk_r, am_kk_l, am_kk_n, am_ui_1, am_ui_2, am_ul_1, am_ul_2, am_b0, am_tl_s, am_tl_n, am_jp, am_ic, am_ct_n, am_ct_c, am_10, am_01, am_b1, am_nn, or_true, or_false, true_or, false_or, Int32.reduceLT, Int32.reduceLE, Int32.reduceAdd, Int32.reduceSub, not_true_eq_false, not_false_eq_true, Nat.reduceAdd, Int.reduceAdd, Int.reduceNeg, Int.reduceLE, Int.reduceSub, Int.reduceToNat, if_true, if_false, ite_true, ite_false, Bool.or_false, Bool.false_or, Bool.or_true, Bool.true_or, Nat.reduceBEq, Nat.reduceEqDiff, reduceIte, eq_self, false_and, and_false, true_and, and_true, Bool.false_eq_true, Bool.true_eq_false, reduceCtorEq, dX8_carried_0, am_dx_aload_n_0, am_ld_0, dX8_carried_1, am_dx_getfield, dX8_carried_4, am_dx_iconst_0, dX8_carried_5, am_dx_aaload, dX8_carried_6, am_dx_iload_n_1, am_ld_1, dX8_carried_7, am_dx_invokevirtual, dX8_carried_10, am_dx_ifCond_eq, dX8_carried_13, am_dx_iload_n_2, am_ld_2, dX8_carried_14, dX8_carried_15, am_dx_iconst_1, dX8_carried_16, am_dx_invokestatic, dX8_carried_19, am_dx_ifCond_ne, dX8_carried_22, am_dx_ldc2_w, dX8_carried_25, am_dx_lreturn, dX8_carried_26, dX8_carried_27, dX8_carried_28, dX8_carried_31, dX8_carried_32, dX8_carried_33, dX8_carried_36, dX8_carried_37, dX8_carried_40, dX8_carried_43, dX8_carried_46, dX8_carried_47, dX8_carried_48, dX8_carried_51, dX8_carried_52, dX8_carried_55, dX8_carried_56, dX8_carried_57, dX8_carried_60, dX8_carried_61, am_dx_iaload, dX8_carried_62, dX8_carried_63, dX8_carried_66, dX8_carried_67, dX8_carried_68, dX8_carried_71, dX8_carried_72, dX8_carried_73, dX8_carried_74, dX8_carried_77, lX8_carried_18, am_fr_8_1, lX8_carried_92, am_cV_1, am_l0, am_l1, am_l2, am_l3, am_l4, lX8_carried_76, am_cS_3, lX8_carried_179, lX8_carried_169, lX8_carried_224, am_cV_0, lX8_carried_65, am_fr_8_9, lX8_carried_198, am_fr_1_0, lX8_carried_201, am_fr_1_1, lX8_carried_204, am_cV_3, am_kd_0, am_gr_0_1, am_kd_21, am_gr_0_9, am_kd_64, x0, am_c0, g0, d5, t3, b2, w_X8_isWithin, ba]
      · refine am_run1 60 [some (.ref 77), some (.int (nI ss)), some (.int ax)] rfl rfl rfl ?_
        simp only [am_go_s, am_bd_none, am_bd_rt, am_bd_nx, am_bd_ite, am_1i_c, am_2i_c, am_1l_c, am_2l_c, am_li_c, am_1r_c, am_ri_c, am_rii_c, am_ril_c, am_vi_c, am_vl_c, am_vr_c, am_ob_c, am_ob_n, am_ob_ite, am_kk_i, am_kk_r, am_kk_l, am_kk_n, am_ui_1, am_ui_2, am_ul_1, am_ul_2, am_b0, am_tl_s, am_tl_n, am_jp, am_ic, am_ct_n, am_ct_c, am_10, am_01, am_b1, am_nn, or_true, or_false, true_or, false_or, Int32.reduceLT, Int32.reduceLE, Int32.reduceAdd, Int32.reduceSub, not_true_eq_false, not_false_eq_true, Nat.reduceAdd, Int.reduceAdd, Int.reduceNeg, Int.reduceLE, Int.reduceSub, Int.reduceToNat, if_true, if_false, ite_true, ite_false, Bool.or_false, Bool.false_or, Bool.or_true, Bool.true_or, Nat.reduceBEq, Nat.reduceEqDiff, reduceIte, eq_self, false_and, and_false, true_and, and_true, Bool.false_eq_true, Bool.true_eq_false, reduceCtorEq, dX9_carried_0, am_dx_aload_n_0, am_ld_0, dX9_carried_1, am_dx_iconst_1, dX9_carried_2, am_dx_iload_n_1, am_ld_1, dX9_carried_3, am_dx_invokevirtual, dX9_carried_6, am_dx_ifCond_eq, dX9_carried_9, am_dx_iload_n_2, am_ld_2, dX9_carried_10, am_dx_iconst_0, dX9_carried_11, dX9_carried_12, am_dx_invokestatic, dX9_carried_15, dX9_carried_18, dX9_carried_19, dX9_carried_22, dX9_carried_23, am_dx_if_icmp_le, dX9_carried_26, dX9_carried_27, dX9_carried_28, dX9_carried_29, dX9_carried_30, dX9_carried_33, am_dx_goto, dX9_carried_36, am_dx_ldc2_w, dX9_carried_39, am_dx_lreturn, lX9_carried_94, am_cV_2, am_l0, am_l1, am_l2, am_l3, am_l4, lX9_carried_75, am_cS_3, lX9_carried_263, am_cV_0, lX9_carried_232, am_cV_3, lX9_carried_251, am_kd_77, t4h, b2, w_X9_within, ba]
    · have ls : ss < 8 := by have := z2.1; omega
      have hM0 : ∀ s k, M0 s = some k → k < 8 := fun s k e => by have := (z4.1 s k e).2; have := z2.1; omega
      have hM1 : ∀ s k, M1 s = some k → k < 8 := fun s k e => by have := (z5.1 s k e).2; have := z3.1; omega
      obtain ⟨s1, s2, s3, s4, s5⟩ := rl_qb r z1 z2 z3 z4 z5
      obtain ⟨h1, h2, k1, k2, gg0, gg1, fc⟩ := z6 h (bs_rf h)
      obtain ⟨h3, u1, u2, u3, u4, u5⟩ := m_X8_fitPlates n hn8 M0 M1 hM0 hM1 h2 (by rw [(fc 1 (by omega)).1]; exact z1.2.1) gg0 gg1 _ (by rw [bq_cg (fun a ha => (fc a (by omega)).1)])
      have fc3 : cs_fr h h3 := cs_tr fc (fun a ha => u5 a (by omega))
      obtain ⟨h4, j1, j2, j3, j4, j5⟩ := rl_fb z' h3 (bs_cs fc3)
      rw [s1, ← s2] at j4
      have b4 : bs_fr h h4 := bs_tr (bs_cs fc3) (bs_rs (fb_rs j5))
      have t4' := t4 h3 (by rw [(fc3 78 (by omega)).1]; exact z2.2.2)
      have rr := Rl_bs b4 r
      have hc8 : (pb M0 M1 n).length ≤ 8 := by have := pb_le M0 M1 n; omega
      generalize eQ : (pb M0 M1 n).map (bq h) = Q at s2 s4 u1 u2 u3 u4 j4
      generalize (pb M0 M1 n).length = c at s2 s4 j1 hc8
      by_cases c2 : 2 ≤ c
      · obtain ⟨s4, s6⟩ := s4 c2
        have u := u1 ⟨by omega, s4⟩
        obtain ⟨n', hn', a1, a2, a3, a4⟩ := r.1 1 (by omega)
        have ea := a4 ss ls
        have y1 := m_X2_placeOf h3 Q.length (ft_s Q) (ft_d Q) u3.1 u3.2.2.1 u3.2.2.2.1 u3.2.2.2.2.1 u3.2.2.2.2.2 u4 (h.1 6 ss) (h.1 7 ss) ax s6
        have y2 : fX9_laidAt [.ref 77, .int 1, .int (nI ss), .int ax] h4 = _ := m_X9_laidAt h4 Q.length (ft_s Q) (ft_d Q) j4 1 (by omega) ss ls ax (fo_0 s6)
        have v1 : h4.1 79 (8 * 1 + ss) = h.1 6 ss := by rw [b4 79 (by omega)]; exact ea.1
        have v2 : h4.1 80 (8 * 1 + ss) = h.1 7 ss := by rw [b4 80 (by omega)]; exact ea.2.1
        rw [v1, v2, ← ft_pl] at y2
        rw [← ft_pl] at y1
        have hy : ∀ z : am_S, am_ix (nI ss) 8 z = z := fun z => am_ix_c ls (by omega)
        have hcm := am_clp ls (by omega)
        have a1' : am_gr 5 0 = 6 := rfl
        have a2' : am_gr 5 1 = 7 := rfl
        have a3' : am_kd 6 = (20, 8) := rfl
        have a4' : am_kd 7 = (20, 8) := rfl
        have w1 : h3.1 6 ss = h.1 6 ss := by rw [(fc3 6 (by omega)).1]
        have w2 : h3.1 7 ss = h.1 7 ss := by rw [(fc3 7 (by omega)).1]
        have q7 : ¬ nI c ≤ 1 := nIlt' (a := 1) (b := c) (by omega) (by omega)
        generalize ft_pl Q (h.1 6 ss) (h.1 7 ss) ax = V at y1 y2
        refine ⟨.long V, h3, h4, ?_, ?_, rr⟩
        · refine am_run1 80 [some (.ref 0), some (.int (nI ss)), some (.int ax)] rfl rfl rfl ?_
          simp only [am_go_s, am_bd_none, am_bd_rt, am_bd_nx, am_bd_ite, am_1i_c, am_2i_c, am_1l_c, am_2l_c, am_li_c, am_1r_c, am_ri_c, am_rii_c, am_ril_c, am_vi_c, am_vl_c, am_vr_c, am_ob_c, am_ob_n, am_ob_ite, am_kk_i, am_kk_r, am_kk_l, am_kk_n, am_ui_1, am_ui_2, am_ul_1, am_ul_2, am_b0, am_tl_s, am_tl_n, am_jp, am_ic, am_ct_n, am_ct_c, am_10, am_01, am_b1, am_nn, or_true, or_false, true_or, false_or, Int32.reduceLT, Int32.reduceLE, Int32.reduceAdd, Int32.reduceSub, not_true_eq_false, not_false_eq_true, Nat.reduceAdd, Int.reduceAdd, Int.reduceNeg, Int.reduceLE, Int.reduceSub, Int.reduceToNat, if_true, if_false, ite_true, ite_false, Bool.or_false, Bool.false_or, Bool.or_true, Bool.true_or, Nat.reduceBEq, Nat.reduceEqDiff, reduceIte, eq_self, false_and, and_false, true_and, and_true, Bool.false_eq_true, Bool.true_eq_false, reduceCtorEq, dX8_carried_0, am_dx_aload_n_0, am_ld_0, dX8_carried_1, am_dx_getfield, dX8_carried_4, am_dx_iconst_0, dX8_carried_5, am_dx_aaload, dX8_carried_6, am_dx_iload_n_1, am_ld_1, dX8_carried_7, am_dx_invokevirtual, dX8_carried_10, am_dx_ifCond_eq, dX8_carried_13, am_dx_iload_n_2, am_ld_2, dX8_carried_14, dX8_carried_15, am_dx_iconst_1, dX8_carried_16, am_dx_invokestatic, dX8_carried_19, am_dx_ifCond_ne, dX8_carried_22, am_dx_ldc2_w, dX8_carried_25, am_dx_lreturn, dX8_carried_26, dX8_carried_27, dX8_carried_28, dX8_carried_31, dX8_carried_32, dX8_carried_33, dX8_carried_36, dX8_carried_37, dX8_carried_40, dX8_carried_43, dX8_carried_46, dX8_carried_47, dX8_carried_48, dX8_carried_51, dX8_carried_52, dX8_carried_55, dX8_carried_56, dX8_carried_57, dX8_carried_60, dX8_carried_61, am_dx_iaload, dX8_carried_62, dX8_carried_63, dX8_carried_66, dX8_carried_67, dX8_carried_68, dX8_carried_71, dX8_carried_72, dX8_carried_73, dX8_carried_74, dX8_carried_77, lX8_carried_18, am_fr_8_1, lX8_carried_92, am_cV_1, am_l0, am_l1, am_l2, am_l3, am_l4, lX8_carried_76, am_cS_3, lX8_carried_179, lX8_carried_169, lX8_carried_224, am_cV_0, lX8_carried_65, am_fr_8_9, lX8_carried_198, am_fr_1_0, lX8_carried_201, am_fr_1_1, lX8_carried_204, am_cV_3, am_kd_0, am_gr_0_1, am_kd_21, am_gr_0_9, am_kd_64, x0, am_c0, g0, d5, t3, b2, w_X8_isWithin, ba, k1, k2, u, hy, hcm, a1', a2', a3', a4', w1, w2, y1]
        · refine am_run1 60 [some (.ref 77), some (.int (nI ss)), some (.int ax)] rfl rfl rfl ?_
          simp only [am_go_s, am_bd_none, am_bd_rt, am_bd_nx, am_bd_ite, am_1i_c, am_2i_c, am_1l_c, am_2l_c, am_li_c, am_1r_c, am_ri_c, am_rii_c, am_ril_c, am_vi_c, am_vl_c, am_vr_c, am_ob_c, am_ob_n, am_ob_ite, am_kk_i, am_kk_r, am_kk_l, am_kk_n, am_ui_1, am_ui_2, am_ul_1, am_ul_2, am_b0, am_tl_s, am_tl_n, am_jp, am_ic, am_ct_n, am_ct_c, am_10, am_01, am_b1, am_nn, or_true, or_false, true_or, false_or, Int32.reduceLT, Int32.reduceLE, Int32.reduceAdd, Int32.reduceSub, not_true_eq_false, not_false_eq_true, Nat.reduceAdd, Int.reduceAdd, Int.reduceNeg, Int.reduceLE, Int.reduceSub, Int.reduceToNat, if_true, if_false, ite_true, ite_false, Bool.or_false, Bool.false_or, Bool.or_true, Bool.true_or, Nat.reduceBEq, Nat.reduceEqDiff, reduceIte, eq_self, false_and, and_false, true_and, and_true, Bool.false_eq_true, Bool.true_eq_false, reduceCtorEq, dX9_carried_0, am_dx_aload_n_0, am_ld_0, dX9_carried_1, am_dx_iconst_1, dX9_carried_2, am_dx_iload_n_1, am_ld_1, dX9_carried_3, am_dx_invokevirtual, dX9_carried_6, am_dx_ifCond_eq, dX9_carried_9, am_dx_iload_n_2, am_ld_2, dX9_carried_10, am_dx_iconst_0, dX9_carried_11, dX9_carried_12, am_dx_invokestatic, dX9_carried_15, dX9_carried_18, dX9_carried_19, dX9_carried_22, dX9_carried_23, am_dx_if_icmp_le, dX9_carried_26, dX9_carried_27, dX9_carried_28, dX9_carried_29, dX9_carried_30, dX9_carried_33, am_dx_goto, dX9_carried_36, am_dx_ldc2_w, dX9_carried_39, am_dx_lreturn, lX9_carried_94, am_cV_2, am_l0, am_l1, am_l2, am_l3, am_l4, lX9_carried_75, am_cS_3, lX9_carried_263, am_cV_0, lX9_carried_232, am_cV_3, lX9_carried_251, am_kd_77, t4', b2, w_X9_within, ba, j1, q7, y2]
      · have u := u2 (fun c => c2 (by omega))
        have q7 : nI c ≤ 1 := nIle' (a := 1) (b := c) (by omega) (by omega)
        refine ⟨.long (-9223372036854775808), h3, h4, ?_, ?_, rr⟩
        · refine am_run1 80 [some (.ref 0), some (.int (nI ss)), some (.int ax)] rfl rfl rfl ?_
          simp only [am_go_s, am_bd_none, am_bd_rt, am_bd_nx, am_bd_ite, am_1i_c, am_2i_c, am_1l_c, am_2l_c, am_li_c, am_1r_c, am_ri_c, am_rii_c, am_ril_c, am_vi_c, am_vl_c, am_vr_c, am_ob_c, am_ob_n, am_ob_ite, am_kk_i, am_kk_r, am_kk_l, am_kk_n, am_ui_1, am_ui_2, am_ul_1, am_ul_2, am_b0, am_tl_s, am_tl_n, am_jp, am_ic, am_ct_n, am_ct_c, am_10, am_01, am_b1, am_nn, or_true, or_false, true_or, false_or, Int32.reduceLT, Int32.reduceLE, Int32.reduceAdd, Int32.reduceSub, not_true_eq_false, not_false_eq_true, Nat.reduceAdd, Int.reduceAdd, Int.reduceNeg, Int.reduceLE, Int.reduceSub, Int.reduceToNat, if_true, if_false, ite_true, ite_false, Bool.or_false, Bool.false_or, Bool.or_true, Bool.true_or, Nat.reduceBEq, Nat.reduceEqDiff, reduceIte, eq_self, false_and, and_false, true_and, and_true, Bool.false_eq_true, Bool.true_eq_false, reduceCtorEq, dX8_carried_0, am_dx_aload_n_0, am_ld_0, dX8_carried_1, am_dx_getfield, dX8_carried_4, am_dx_iconst_0, dX8_carried_5, am_dx_aaload, dX8_carried_6, am_dx_iload_n_1, am_ld_1, dX8_carried_7, am_dx_invokevirtual, dX8_carried_10, am_dx_ifCond_eq, dX8_carried_13, am_dx_iload_n_2, am_ld_2, dX8_carried_14, dX8_carried_15, am_dx_iconst_1, dX8_carried_16, am_dx_invokestatic, dX8_carried_19, am_dx_ifCond_ne, dX8_carried_22, am_dx_ldc2_w, dX8_carried_25, am_dx_lreturn, dX8_carried_26, dX8_carried_27, dX8_carried_28, dX8_carried_31, dX8_carried_32, dX8_carried_33, dX8_carried_36, dX8_carried_37, dX8_carried_40, dX8_carried_43, dX8_carried_46, dX8_carried_47, dX8_carried_48, dX8_carried_51, dX8_carried_52, dX8_carried_55, dX8_carried_56, dX8_carried_57, dX8_carried_60, dX8_carried_61, am_dx_iaload, dX8_carried_62, dX8_carried_63, dX8_carried_66, dX8_carried_67, dX8_carried_68, dX8_carried_71, dX8_carried_72, dX8_carried_73, dX8_carried_74, dX8_carried_77, lX8_carried_18, am_fr_8_1, lX8_carried_92, am_cV_1, am_l0, am_l1, am_l2, am_l3, am_l4, lX8_carried_76, am_cS_3, lX8_carried_179, lX8_carried_169, lX8_carried_224, am_cV_0, lX8_carried_65, am_fr_8_9, lX8_carried_198, am_fr_1_0, lX8_carried_201, am_fr_1_1, lX8_carried_204, am_cV_3, am_kd_0, am_gr_0_1, am_kd_21, am_gr_0_9, am_kd_64, x0, am_c0, g0, d5, t3, b2, w_X8_isWithin, ba, k1, k2, u]
        · refine am_run1 60 [some (.ref 77), some (.int (nI ss)), some (.int ax)] rfl rfl rfl ?_
          simp only [am_go_s, am_bd_none, am_bd_rt, am_bd_nx, am_bd_ite, am_1i_c, am_2i_c, am_1l_c, am_2l_c, am_li_c, am_1r_c, am_ri_c, am_rii_c, am_ril_c, am_vi_c, am_vl_c, am_vr_c, am_ob_c, am_ob_n, am_ob_ite, am_kk_i, am_kk_r, am_kk_l, am_kk_n, am_ui_1, am_ui_2, am_ul_1, am_ul_2, am_b0, am_tl_s, am_tl_n, am_jp, am_ic, am_ct_n, am_ct_c, am_10, am_01, am_b1, am_nn, or_true, or_false, true_or, false_or, Int32.reduceLT, Int32.reduceLE, Int32.reduceAdd, Int32.reduceSub, not_true_eq_false, not_false_eq_true, Nat.reduceAdd, Int.reduceAdd, Int.reduceNeg, Int.reduceLE, Int.reduceSub, Int.reduceToNat, if_true, if_false, ite_true, ite_false, Bool.or_false, Bool.false_or, Bool.or_true, Bool.true_or, Nat.reduceBEq, Nat.reduceEqDiff, reduceIte, eq_self, false_and, and_false, true_and, and_true, Bool.false_eq_true, Bool.true_eq_false, reduceCtorEq, dX9_carried_0, am_dx_aload_n_0, am_ld_0, dX9_carried_1, am_dx_iconst_1, dX9_carried_2, am_dx_iload_n_1, am_ld_1, dX9_carried_3, am_dx_invokevirtual, dX9_carried_6, am_dx_ifCond_eq, dX9_carried_9, am_dx_iload_n_2, am_ld_2, dX9_carried_10, am_dx_iconst_0, dX9_carried_11, dX9_carried_12, am_dx_invokestatic, dX9_carried_15, dX9_carried_18, dX9_carried_19, dX9_carried_22, dX9_carried_23, am_dx_if_icmp_le, dX9_carried_26, dX9_carried_27, dX9_carried_28, dX9_carried_29, dX9_carried_30, dX9_carried_33, am_dx_goto, dX9_carried_36, am_dx_ldc2_w, dX9_carried_39, am_dx_lreturn, lX9_carried_94, am_cV_2, am_l0, am_l1, am_l2, am_l3, am_l4, lX9_carried_75, am_cS_3, lX9_carried_263, am_cV_0, lX9_carried_232, am_cV_3, lX9_carried_251, am_kd_77, t4', b2, w_X9_within, ba, j1, q7]
