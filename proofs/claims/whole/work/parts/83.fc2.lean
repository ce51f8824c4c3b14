/-! findCleaned, whole -/
theorem fc_lp {h0 : am_H} (rl : Rl h0) {q : Nat} (hq : q < 2) {n m : Nat} (z1 : rl_n h0 0 n) (z2 : rl_n h0 (1 + q) m) (d : Nat) : ∀ (M : pm_M) (ok : pm_ok n m M) (hd : pm_c M 8 ≤ d + 2) (h : am_H) (hb : bs_fr h0 h) (g : fc_has h0 h q n M) (b : Int32) (eb1 : 2 < pm_c M 8 → b = 1) (eb0 : ¬ 2 < pm_c M 8 → b = 0) (x y : Option Value), ∃ k, am_Big GX9_findCleaned cX9_findCleaned (22, [some (.ref 77), some (.int (nI q)), some (.int (nI (pm_c M 8))), some (.int b), x, y], [], h) (some (.int (nI (pm_c (cl h0 q n d M) 8))), k) ∧ fc_has h0 k q n (cl h0 q n d M) ∧ fc_fr h k q := by
  have stop : ∀ (d : Nat) (M : pm_M) (h : am_H) (g : fc_has h0 h q n M) (b : Int32) (eb0 : b = 0) (hc : ¬ 2 < pm_c M 8) (x y : Option Value), ∃ k, am_Big GX9_findCleaned cX9_findCleaned (22, [some (.ref 77), some (.int (nI q)), some (.int (nI (pm_c M 8))), some (.int b), x, y], [], h) (some (.int (nI (pm_c (cl h0 q n d M) 8))), k) ∧ fc_has h0 k q n (cl h0 q n d M) ∧ fc_fr h k q := by
    intro d M h g b eb hc x y
    subst eb
    rw [cl_n (by unfold cl_w; rw [if_neg hc])]
    refine ⟨h, am_Big_end (sp := []) 40 ?_, g, fc_rf h q⟩
    simp only [am_go_s, am_bd_none, am_bd_rt, am_bd_nx, am_bd_ite, am_1i_c, am_2i_c, am_1l_c, am_2l_c, am_li_c, am_1r_c, am_ri_c, am_rii_c, am_ril_c, am_vi_c, am_vl_c, am_vr_c, am_ob_c, am_ob_n, am_ob_ite, am_kk_i, am_kk_r, am_kk_l, am_kk_n, am_ui_1, am_ui_2, am_ul_1, am_ul_2, am_b0, am_tl_s, am_tl_n, am_jp, am_ic, am_ct_n, am_ct_c, am_10, am_01, am_b1, am_nn, or_true, or_false, true_or, false_or, Int32.reduceLT, Int32.reduceLE, Int32.reduceAdd, Int32.reduceSub, not_true_eq_false, not_false_eq_true, Nat.reduceAdd, Int.reduceAdd, Int.reduceNeg, Int.reduceLE, Int.reduceSub, Int.reduceToNat, if_true, if_false, ite_true, ite_false, Bool.or_false, Bool.false_or, Bool.or_true, Bool.true_or, Nat.reduceBEq, Nat.reduceEqDiff, reduceIte, eq_self, false_and, and_false, true_and, and_true, Bool.false_eq_true, Bool.true_eq_false, reduceCtorEq, dX9_findCleaned_0, am_dx_aload_n_0, am_ld_0, dX9_findCleaned_1, am_dx_iload_n_1, am_ld_1, dX9_findCleaned_2, am_dx_invokevirtual, dX9_findCleaned_5, am_dx_istore_n_2, am_set_2, am_set_1, am_st1_2, am_lnl_2, dX9_findCleaned_6, dX9_findCleaned_7, dX9_findCleaned_8, dX9_findCleaned_11, am_dx_iload_n_2, am_ld_2, dX9_findCleaned_12, am_dx_iconst_2, dX9_findCleaned_13, am_dx_if_icmp_le, dX9_findCleaned_16, am_dx_iconst_1, dX9_findCleaned_17, am_dx_goto, dX9_findCleaned_20, am_dx_iconst_0, dX9_findCleaned_21, am_dx_istore_n_3, am_set_3, am_st1_3, am_lnl_3, dX9_findCleaned_22, am_dx_iload_n_3, am_ld_3, dX9_findCleaned_23, am_dx_ifCond_eq, dX9_findCleaned_26, dX9_findCleaned_27, am_dx_getfield, dX9_findCleaned_30, dX9_findCleaned_31, am_dx_iaload, dX9_findCleaned_32, am_dx_istore_4, am_set_4, am_st1_4, am_lnl_4, dX9_findCleaned_34, dX9_findCleaned_35, am_dx_istore_5, am_set_5, am_ld_4, am_st1_5, am_lnl_5, dX9_findCleaned_37, am_dx_iload_5, am_ld_5, dX9_findCleaned_39, dX9_findCleaned_40, dX9_findCleaned_43, am_dx_if_icmp_ge, dX9_findCleaned_46, dX9_findCleaned_47, dX9_findCleaned_48, dX9_findCleaned_49, dX9_findCleaned_52, dX9_findCleaned_54, dX9_findCleaned_55, dX9_findCleaned_58, dX9_findCleaned_59, dX9_findCleaned_60, am_dx_iload_4, dX9_findCleaned_62, dX9_findCleaned_65, am_dx_lcmp, dX9_findCleaned_66, am_dx_ifCond_le, dX9_findCleaned_69, dX9_findCleaned_70, dX9_findCleaned_73, dX9_findCleaned_75, dX9_findCleaned_76, dX9_findCleaned_79, dX9_findCleaned_81, dX9_findCleaned_83, am_dx_iinc_5_1, dX9_findCleaned_86, dX9_findCleaned_89, dX9_findCleaned_90, dX9_findCleaned_91, dX9_findCleaned_93, dX9_findCleaned_96, dX9_findCleaned_97, dX9_findCleaned_100, dX9_findCleaned_101, dX9_findCleaned_102, am_dx_i2l, dX9_findCleaned_103, dX9_findCleaned_104, dX9_findCleaned_107, dX9_findCleaned_108, dX9_findCleaned_111, dX9_findCleaned_112, dX9_findCleaned_113, dX9_findCleaned_114, dX9_findCleaned_117, dX9_findCleaned_118, dX9_findCleaned_121, am_dx_bipush_8, dX9_findCleaned_123, dX9_findCleaned_124, am_dx_imul, dX9_findCleaned_125, dX9_findCleaned_127, am_dx_iadd, dX9_findCleaned_128, am_dx_bipush_m9, dX9_findCleaned_130, am_dx_iastore, dX9_findCleaned_131, am_dx_iinc_2_m1, dX9_findCleaned_134, dX9_findCleaned_135, dX9_findCleaned_136, dX9_findCleaned_139, dX9_findCleaned_140, dX9_findCleaned_143, dX9_findCleaned_144, dX9_findCleaned_145, dX9_findCleaned_148, dX9_findCleaned_149, dX9_findCleaned_152, dX9_findCleaned_153, dX9_findCleaned_154, dX9_findCleaned_157, dX9_findCleaned_158, am_dx_ireturn, lX9_findCleaned_238, am_cV_1, am_l0, am_l1, am_l2, am_l3, am_l4, lX9_findCleaned_241, lX9_findCleaned_38, am_fr_9_26, lX9_findCleaned_221, am_fr_9_18, am_fw_9_18, lX9_findCleaned_244, am_cV_2, lX9_findCleaned_23, am_fr_9_4, lX9_findCleaned_35, am_fr_9_17, am_kd_77, am_gr_77_26, am_kd_87, am_gr_77_4, am_kd_82, am_gr_77_17, am_kd_86]
  induction d with
  | zero =>
    intro M ok hd h hb g b eb1 eb0 x y
    exact stop 0 M h g b (eb0 (by omega)) (by omega) x y
  | succ d ih =>
    intro M ok hd h hb g b eb1 eb0 x y
    by_cases c2 : 2 < pm_c M 8
    · have eb := eb1 c2
      subst eb
      obtain ⟨s1, s2, s3, s4, s5⟩ := rl_q rl hq z1 z2 ok
      obtain ⟨s4, s6⟩ := s4 (by omega)
      have hn8 := z1.1
      have hm8 := z2.1
      have hc8 := pm_c_le M 8
      have erp : rp_q h 0 (1 + q) = rp_q h0 0 (1 + q) := rp_cg (hb 79 (by omega)) (hb 80 (by omega))
      have er : ∀ a, a ∈ pml M n → rp_q h 0 (1 + q) a = cq h0 q a := by
        rw [erp]
        exact List.map_inj_left.mp s1
      obtain ⟨b, l, el⟩ : ∃ b l, pml M n = b :: l := by
        cases e : pml M n with
        | nil =>
          have := pml_len M n
          rw [e, pm_c_n ok hn8, List.length_nil] at this
          omega
        | cons b l => exact ⟨b, l, rfl⟩
      have re := fc_w hq hn8 hm8 ok h g er s6 _ rfl b l el (nI (pm_c M 8)) x y
      have hw := wd_fm (fun a => ft_m ((pml M n).map (cq h0 q)) (cq h0 q a)) (h0.1 31 1).toInt64 b l
      have hi := fm_in (fun a => ft_m ((pml M n).map (cq h0 q)) (cq h0 q a)) b l
      have ew : cl_w h0 q n M = (wd (fun a => ft_m ((pml M n).map (cq h0 q)) (cq h0 q a)) (h0.1 31 1).toInt64 (pml M n)).1 := by unfold cl_w; rw [if_pos c2]
      rw [← el] at hw hi
      have ts : ∀ a, a ∈ pml M n → fX9_offOf [.ref 77, .int (nI q), .int (nI a.1)] h = some (some (.long (ft_m ((pml M n).map (cq h0 q)) (cq h0 q a))), h) := by
        intro a ha
        obtain ⟨s, k⟩ := a
        obtain ⟨ls, ek⟩ := pml_in.mp ha
        have lk := (ok.1 s k ek).2
        have t := m_X9_offOf q hq h _ g.2.2 s6 s k (by omega) (by omega) (by rw [g.1 s (by omega), ek]; rfl)
        rw [er _ ha] at t
        exact t
      generalize fm (fun a => ft_m ((pml M n).map (cq h0 q)) (cq h0 q a)) b l = a at re hw hi
      have t := ts a hi
      have e82 : (h.1 82 1).toInt64 = (h0.1 31 1).toInt64 := by rw [hb 82 (by omega), rl.2.1.1 1 (by omega)]
      generalize (h0.1 31 1).toInt64 = L at hw ew e82
      have x1 : ∀ z : am_S, am_ix 1 4 z = z := fun z => am_ix_c (j := 1) (n := 4) (by omega) (by omega)
      by_cases cl0 : L < ft_m ((pml M n).map (cq h0 q)) (cq h0 q a)
      · have e : cl_w h0 q n M = some a.1 := by
          rw [ew, hw.1 cl0]
        obtain ⟨s, k⟩ := a
        dsimp only at re t cl0 e
        obtain ⟨ls, ek⟩ := pml_in.mp hi
        have c3 : ¬ ft_m ((pml M n).map (cq h0 q)) (cq h0 q (s, k)) ≤ L := Int64.not_le.mpr cl0
        generalize ft_m ((pml M n).map (cq h0 q)) (cq h0 q (s, k)) = V at t c3
        obtain ⟨c, hc⟩ : ∃ c, pm_c M 8 = c + 1 := ⟨pm_c M 8 - 1, by omega⟩
        have hcd : pm_c (pm_d M s) 8 = c := by
          have := pm_d_c M s k 8 ek
          rw [if_pos (by omega)] at this
          omega
        have hx : ∀ z : am_S, am_ix (nI (8 * q + s)) 16 z = z := fun z => am_ix_c (by omega) (by omega)
        have hcl : (nI (8 * q + s)).toNatClampNeg = 8 * q + s := am_clp (n := 16) (by omega) (by omega)
        have f1 : fc_fr h (am_ui h 86 (8 * q + s) (-9)) q := by
          refine ⟨fun a c1 c2 => ?_, fun a _ => rfl, fun b c1 c2 => ?_, fun b c1 => ?_⟩
          · funext z
            ((try simp only [am_ui_1, am_ui_2, true_and, and_true, and_self, if_true, reduceIte]); (repeat first | rw [if_neg (by omega)] | rw [if_pos (by omega)]); try rfl)
          · ((try simp only [am_ui_1, am_ui_2, true_and, and_true, and_self, if_true, reduceIte]); (repeat first | rw [if_neg (by omega)] | rw [if_pos (by omega)]); try rfl)
          · ((try simp only [am_ui_1, am_ui_2, true_and, and_true, and_self, if_true, reduceIte]); (repeat first | rw [if_neg (by omega)] | rw [if_pos (by omega)]); try rfl)
        have g1 : mr_has (am_ui h 86 (8 * q + s) (-9)) q (pm_d M s) := by
          intro t ht
          unfold pm_d
          by_cases et : t = s
          · subst et
            rw [if_pos rfl, show mv none = -9 from rfl]
            ((try simp only [am_ui_1, am_ui_2, true_and, and_true, and_self, if_true, reduceIte]); (repeat first | rw [if_neg (by omega)] | rw [if_pos (by omega)]); try rfl)
          · rw [if_neg et, ← g.1 t ht]
            ((try simp only [am_ui_1, am_ui_2, true_and, and_true, and_self, if_true, reduceIte]); (repeat first | rw [if_neg (by omega)] | rw [if_pos (by omega)]); try rfl)
        have hb1 : bs_fr h0 (am_ui h 86 (8 * q + s) (-9)) := fun a ha => by rw [f1.1 a (by omega) (by omega)]; exact hb a ha
        obtain ⟨h3, p1, p2, p3⟩ := fc_p rl hq z1 z2 (pm_d_ok ok s) _ hb1 g1
        have f3 := fc_tr f1 p3
        have hb3 : bs_fr h0 h3 := bs_tr hb (bs_rs (fc_rs f3))
        have nm : nI (pm_c M 8) + -1 = nI c := by
          rw [hc]
          have := nI_pred c
          rw [Int32.sub_eq_add_neg] at this
          exact this
        rw [cl_s e]
        by_cases d2 : 2 < pm_c (pm_d M s) 8
        · obtain ⟨k4, y1, y2, y3⟩ := ih (pm_d M s) (pm_d_ok ok s) (by omega) h3 hb3 p2 1 (fun _ => rfl) (fun c => absurd d2 c) (some (.int (nI s))) (some (.int (nI (l.length + 1))))
          refine ⟨k4, re _ ?_, y2, fc_tr f3 y3⟩
          have q7 : ¬ nI c ≤ 2 := nIlt' (a := 2) (b := c) (by omega) (by omega)
          have rr : am_Re GX9_findCleaned cX9_findCleaned (89, [some (.ref 77), some (.int (nI q)), some (.int (nI (pm_c M 8))), some (.int 1), some (.int (nI s)), some (.int (nI (l.length + 1)))], [], h) (22, [some (.ref 77), some (.int (nI q)), some (.int (nI c)), some (.int 1), some (.int (nI s)), some (.int (nI (l.length + 1)))], [], h3) := by
            refine am_Re_go (sp := [22]) 60 ?_
            simp only [am_go_s, am_bd_none, am_bd_rt, am_bd_nx, am_bd_ite, am_1i_c, am_2i_c, am_1l_c, am_2l_c, am_li_c, am_1r_c, am_ri_c, am_rii_c, am_ril_c, am_vi_c, am_vl_c, am_vr_c, am_ob_c, am_ob_n, am_ob_ite, am_kk_i, am_kk_r, am_kk_l, am_kk_n, am_ui_1, am_ui_2, am_ul_1, am_ul_2, am_b0, am_tl_s, am_tl_n, am_jp, am_ic, am_ct_n, am_ct_c, am_10, am_01, am_b1, am_nn, or_true, or_false, true_or, false_or, Int32.reduceLT, Int32.reduceLE, Int32.reduceAdd, Int32.reduceSub, not_true_eq_false, not_false_eq_true, Nat.reduceAdd, Int.reduceAdd, Int.reduceNeg, Int.reduceLE, Int.reduceSub, Int.reduceToNat, if_true, if_false, ite_true, ite_false, Bool.or_false, Bool.false_or, Bool.or_true, Bool.true_or, Nat.reduceBEq, Nat.reduceEqDiff, reduceIte, eq_self, false_and, and_false, true_and, and_true, Bool.false_eq_true, Bool.true_eq_false, reduceCtorEq, dX9_findCleaned_0, am_dx_aload_n_0, am_ld_0, dX9_findCleaned_1, am_dx_iload_n_1, am_ld_1, dX9_findCleaned_2, am_dx_invokevirtual, dX9_findCleaned_5, am_dx_istore_n_2, am_set_2, am_set_1, am_st1_2, am_lnl_2, dX9_findCleaned_6, dX9_findCleaned_7, dX9_findCleaned_8, dX9_findCleaned_11, am_dx_iload_n_2, am_ld_2, dX9_findCleaned_12, am_dx_iconst_2, dX9_findCleaned_13, am_dx_if_icmp_le, dX9_findCleaned_16, am_dx_iconst_1, dX9_findCleaned_17, am_dx_goto, dX9_findCleaned_20, am_dx_iconst_0, dX9_findCleaned_21, am_dx_istore_n_3, am_set_3, am_st1_3, am_lnl_3, dX9_findCleaned_22, am_dx_iload_n_3, am_ld_3, dX9_findCleaned_23, am_dx_ifCond_eq, dX9_findCleaned_26, dX9_findCleaned_27, am_dx_getfield, dX9_findCleaned_30, dX9_findCleaned_31, am_dx_iaload, dX9_findCleaned_32, am_dx_istore_4, am_set_4, am_st1_4, am_lnl_4, dX9_findCleaned_34, dX9_findCleaned_35, am_dx_istore_5, am_set_5, am_ld_4, am_st1_5, am_lnl_5, dX9_findCleaned_37, am_dx_iload_5, am_ld_5, dX9_findCleaned_39, dX9_findCleaned_40, dX9_findCleaned_43, am_dx_if_icmp_ge, dX9_findCleaned_46, dX9_findCleaned_47, dX9_findCleaned_48, dX9_findCleaned_49, dX9_findCleaned_52, dX9_findCleaned_54, dX9_findCleaned_55, dX9_findCleaned_58, dX9_findCleaned_59, dX9_findCleaned_60, am_dx_iload_4, dX9_findCleaned_62, dX9_findCleaned_65, am_dx_lcmp, dX9_findCleaned_66, am_dx_ifCond_le, dX9_findCleaned_69, dX9_findCleaned_70, dX9_findCleaned_73, dX9_findCleaned_75, dX9_findCleaned_76, dX9_findCleaned_79, dX9_findCleaned_81, dX9_findCleaned_83, am_dx_iinc_5_1, dX9_findCleaned_86, dX9_findCleaned_89, dX9_findCleaned_90, dX9_findCleaned_91, dX9_findCleaned_93, dX9_findCleaned_96, dX9_findCleaned_97, dX9_findCleaned_100, dX9_findCleaned_101, dX9_findCleaned_102, am_dx_i2l, dX9_findCleaned_103, dX9_findCleaned_104, dX9_findCleaned_107, dX9_findCleaned_108, dX9_findCleaned_111, dX9_findCleaned_112, dX9_findCleaned_113, dX9_findCleaned_114, dX9_findCleaned_117, dX9_findCleaned_118, dX9_findCleaned_121, am_dx_bipush_8, dX9_findCleaned_123, dX9_findCleaned_124, am_dx_imul, dX9_findCleaned_125, dX9_findCleaned_127, am_dx_iadd, dX9_findCleaned_128, am_dx_bipush_m9, dX9_findCleaned_130, am_dx_iastore, dX9_findCleaned_131, am_dx_iinc_2_m1, dX9_findCleaned_134, dX9_findCleaned_135, dX9_findCleaned_136, dX9_findCleaned_139, dX9_findCleaned_140, dX9_findCleaned_143, dX9_findCleaned_144, dX9_findCleaned_145, dX9_findCleaned_148, dX9_findCleaned_149, dX9_findCleaned_152, dX9_findCleaned_153, dX9_findCleaned_154, dX9_findCleaned_157, dX9_findCleaned_158, am_dx_ireturn, lX9_findCleaned_238, am_cV_1, am_l0, am_l1, am_l2, am_l3, am_l4, lX9_findCleaned_241, lX9_findCleaned_38, am_fr_9_26, lX9_findCleaned_221, am_fr_9_18, am_fw_9_18, lX9_findCleaned_244, am_cV_2, lX9_findCleaned_23, am_fr_9_4, lX9_findCleaned_35, am_fr_9_17, am_kd_77, am_gr_77_26, am_kd_87, am_gr_77_4, am_kd_82, am_gr_77_17, am_kd_86, t, x1, am_c1, e82, am_lc_le0, c3, hx, hcl, am_8, nm, p1, q7]
          rw [hcd] at y1
          exact rr _ y1
        · obtain ⟨k4, y1, y2, y3⟩ := ih (pm_d M s) (pm_d_ok ok s) (by omega) h3 hb3 p2 0 (fun c => absurd c d2) (fun _ => rfl) (some (.int (nI s))) (some (.int (nI (l.length + 1))))
          refine ⟨k4, re _ ?_, y2, fc_tr f3 y3⟩
          have q7 : nI c ≤ 2 := nIle' (a := 2) (b := c) (by omega) (by omega)
          have rr : am_Re GX9_findCleaned cX9_findCleaned (89, [some (.ref 77), some (.int (nI q)), some (.int (nI (pm_c M 8))), some (.int 1), some (.int (nI s)), some (.int (nI (l.length + 1)))], [], h) (22, [some (.ref 77), some (.int (nI q)), some (.int (nI c)), some (.int 0), some (.int (nI s)), some (.int (nI (l.length + 1)))], [], h3) := by
            refine am_Re_go (sp := [22]) 60 ?_
            simp only [am_go_s, am_bd_none, am_bd_rt, am_bd_nx, am_bd_ite, am_1i_c, am_2i_c, am_1l_c, am_2l_c, am_li_c, am_1r_c, am_ri_c, am_rii_c, am_ril_c, am_vi_c, am_vl_c, am_vr_c, am_ob_c, am_ob_n, am_ob_ite, am_kk_i, am_kk_r, am_kk_l, am_kk_n, am_ui_1, am_ui_2, am_ul_1, am_ul_2, am_b0, am_tl_s, am_tl_n, am_jp, am_ic, am_ct_n, am_ct_c, am_10, am_01, am_b1, am_nn, or_true, or_false, true_or, false_or, Int32.reduceLT, Int32.reduceLE, Int32.reduceAdd, Int32.reduceSub, not_true_eq_false, not_false_eq_true, Nat.reduceAdd, Int.reduceAdd, Int.reduceNeg, Int.reduceLE, Int.reduceSub, Int.reduceToNat, if_true, if_false, ite_true, ite_false, Bool.or_false, Bool.false_or, Bool.or_true, Bool.true_or, Nat.reduceBEq, Nat.reduceEqDiff, reduceIte, eq_self, false_and, and_false, true_and, and_true, Bool.false_eq_true, Bool.true_eq_false, reduceCtorEq, dX9_findCleaned_0, am_dx_aload_n_0, am_ld_0, dX9_findCleaned_1, am_dx_iload_n_1, am_ld_1, dX9_findCleaned_2, am_dx_invokevirtual, dX9_findCleaned_5, am_dx_istore_n_2, am_set_2, am_set_1, am_st1_2, am_lnl_2, dX9_findCleaned_6, dX9_findCleaned_7, dX9_findCleaned_8, dX9_findCleaned_11, am_dx_iload_n_2, am_ld_2, dX9_findCleaned_12, am_dx_iconst_2, dX9_findCleaned_13, am_dx_if_icmp_le, dX9_findCleaned_16, am_dx_iconst_1, dX9_findCleaned_17, am_dx_goto, dX9_findCleaned_20, am_dx_iconst_0, dX9_findCleaned_21, am_dx_istore_n_3, am_set_3, am_st1_3, am_lnl_3, dX9_findCleaned_22, am_dx_iload_n_3, am_ld_3, dX9_findCleaned_23, am_dx_ifCond_eq, dX9_findCleaned_26, dX9_findCleaned_27, am_dx_getfield, dX9_findCleaned_30, dX9_findCleaned_31, am_dx_iaload, dX9_findCleaned_32, am_dx_istore_4, am_set_4, am_st1_4, am_lnl_4, dX9_findCleaned_34, dX9_findCleaned_35, am_dx_istore_5, am_set_5, am_ld_4, am_st1_5, am_lnl_5, dX9_findCleaned_37, am_dx_iload_5, am_ld_5, dX9_findCleaned_39, dX9_findCleaned_40, dX9_findCleaned_43, am_dx_if_icmp_ge, dX9_findCleaned_46, dX9_findCleaned_47, dX9_findCleaned_48, dX9_findCleaned_49, dX9_findCleaned_52, dX9_findCleaned_54, dX9_findCleaned_55, dX9_findCleaned_58, dX9_findCleaned_59, dX9_findCleaned_60, am_dx_iload_4, dX9_findCleaned_62, dX9_findCleaned_65, am_dx_lcmp, dX9_findCleaned_66, am_dx_ifCond_le, dX9_findCleaned_69, dX9_findCleaned_70, dX9_findCleaned_73, dX9_findCleaned_75, dX9_findCleaned_76, dX9_findCleaned_79, dX9_findCleaned_81, dX9_findCleaned_83, am_dx_iinc_5_1, dX9_findCleaned_86, dX9_findCleaned_89, dX9_findCleaned_90, dX9_findCleaned_91, dX9_findCleaned_93, dX9_findCleaned_96, dX9_findCleaned_97, dX9_findCleaned_100, dX9_findCleaned_101, dX9_findCleaned_102, am_dx_i2l, dX9_findCleaned_103, dX9_findCleaned_104, dX9_findCleaned_107, dX9_findCleaned_108, dX9_findCleaned_111, dX9_findCleaned_112, dX9_findCleaned_113, dX9_findCleaned_114, dX9_findCleaned_117, dX9_findCleaned_118, dX9_findCleaned_121, am_dx_bipush_8, dX9_findCleaned_123, dX9_findCleaned_124, am_dx_imul, dX9_findCleaned_125, dX9_findCleaned_127, am_dx_iadd, dX9_findCleaned_128, am_dx_bipush_m9, dX9_findCleaned_130, am_dx_iastore, dX9_findCleaned_131, am_dx_iinc_2_m1, dX9_findCleaned_134, dX9_findCleaned_135, dX9_findCleaned_136, dX9_findCleaned_139, dX9_findCleaned_140, dX9_findCleaned_143, dX9_findCleaned_144, dX9_findCleaned_145, dX9_findCleaned_148, dX9_findCleaned_149, dX9_findCleaned_152, dX9_findCleaned_153, dX9_findCleaned_154, dX9_findCleaned_157, dX9_findCleaned_158, am_dx_ireturn, lX9_findCleaned_238, am_cV_1, am_l0, am_l1, am_l2, am_l3, am_l4, lX9_findCleaned_241, lX9_findCleaned_38, am_fr_9_26, lX9_findCleaned_221, am_fr_9_18, am_fw_9_18, lX9_findCleaned_244, am_cV_2, lX9_findCleaned_23, am_fr_9_4, lX9_findCleaned_35, am_fr_9_17, am_kd_77, am_gr_77_26, am_kd_87, am_gr_77_4, am_kd_82, am_gr_77_17, am_kd_86, t, x1, am_c1, e82, am_lc_le0, c3, hx, hcl, am_8, nm, p1, q7]
          rw [hcd] at y1
          exact rr _ y1
      · have e : cl_w h0 q n M = none := by
          rw [ew, hw.2 cl0]
        have c3 : ft_m ((pml M n).map (cq h0 q)) (cq h0 q a) ≤ L := Int64.not_lt.mp cl0
        generalize ft_m ((pml M n).map (cq h0 q)) (cq h0 q a) = V at t c3
        rw [cl_n e]
        refine ⟨h, re _ (am_Big_end (sp := []) 60 ?_), g, fc_rf h q⟩
        simp only [am_go_s, am_bd_none, am_bd_rt, am_bd_nx, am_bd_ite, am_1i_c, am_2i_c, am_1l_c, am_2l_c, am_li_c, am_1r_c, am_ri_c, am_rii_c, am_ril_c, am_vi_c, am_vl_c, am_vr_c, am_ob_c, am_ob_n, am_ob_ite, am_kk_i, am_kk_r, am_kk_l, am_kk_n, am_ui_1, am_ui_2, am_ul_1, am_ul_2, am_b0, am_tl_s, am_tl_n, am_jp, am_ic, am_ct_n, am_ct_c, am_10, am_01, am_b1, am_nn, or_true, or_false, true_or, false_or, Int32.reduceLT, Int32.reduceLE, Int32.reduceAdd, Int32.reduceSub, not_true_eq_false, not_false_eq_true, Nat.reduceAdd, Int.reduceAdd, Int.reduceNeg, Int.reduceLE, Int.reduceSub, Int.reduceToNat, if_true, if_false, ite_true, ite_false, Bool.or_false, Bool.false_or, Bool.or_true, Bool.true_or, Nat.reduceBEq, Nat.reduceEqDiff, reduceIte, eq_self, false_and, and_false, true_and, and_true, Bool.false_eq_true, Bool.true_eq_false, reduceCtorEq, dX9_findCleaned_0, am_dx_aload_n_0, am_ld_0, dX9_findCleaned_1, am_dx_iload_n_1, am_ld_1, dX9_findCleaned_2, am_dx_invokevirtual, dX9_findCleaned_5, am_dx_istore_n_2, am_set_2, am_set_1, am_st1_2, am_lnl_2, dX9_findCleaned_6, dX9_findCleaned_7, dX9_findCleaned_8, dX9_findCleaned_11, am_dx_iload_n_2, am_ld_2, dX9_findCleaned_12, am_dx_iconst_2, dX9_findCleaned_13, am_dx_if_icmp_le, dX9_findCleaned_16, am_dx_iconst_1, dX9_findCleaned_17, am_dx_goto, dX9_findCleaned_20, am_dx_iconst_0, dX9_findCleaned_21, am_dx_istore_n_3, am_set_3, am_st1_3, am_lnl_3, dX9_findCleaned_22, am_dx_iload_n_3, am_ld_3, dX9_findCleaned_23, am_dx_ifCond_eq, dX9_findCleaned_26, dX9_findCleaned_27, am_dx_getfield, dX9_findCleaned_30, dX9_findCleaned_31, am_dx_iaload, dX9_findCleaned_32, am_dx_istore_4, am_set_4, am_st1_4, am_lnl_4, dX9_findCleaned_34, dX9_findCleaned_35, am_dx_istore_5, am_set_5, am_ld_4, am_st1_5, am_lnl_5, dX9_findCleaned_37, am_dx_iload_5, am_ld_5, dX9_findCleaned_39, dX9_findCleaned_40, dX9_findCleaned_43, am_dx_if_icmp_ge, dX9_findCleaned_46, dX9_findCleaned_47, dX9_findCleaned_48, dX9_findCleaned_49, dX9_findCleaned_52, dX9_findCleaned_54, dX9_findCleaned_55, dX9_findCleaned_58, dX9_findCleaned_59, dX9_findCleaned_60, am_dx_iload_4, dX9_findCleaned_62, dX9_findCleaned_65, am_dx_lcmp, dX9_findCleaned_66, am_dx_ifCond_le, dX9_findCleaned_69, dX9_findCleaned_70, dX9_findCleaned_73, dX9_findCleaned_75, dX9_findCleaned_76, dX9_findCleaned_79, dX9_findCleaned_81, dX9_findCleaned_83, am_dx_iinc_5_1, dX9_findCleaned_86, dX9_findCleaned_89, dX9_findCleaned_90, dX9_findCleaned_91, dX9_findCleaned_93, dX9_findCleaned_96, dX9_findCleaned_97, dX9_findCleaned_100, dX9_findCleaned_101, dX9_findCleaned_102, am_dx_i2l, dX9_findCleaned_103, dX9_findCleaned_104, dX9_findCleaned_107, dX9_findCleaned_108, dX9_findCleaned_111, dX9_findCleaned_112, dX9_findCleaned_113, dX9_findCleaned_114, dX9_findCleaned_117, dX9_findCleaned_118, dX9_findCleaned_121, am_dx_bipush_8, dX9_findCleaned_123, dX9_findCleaned_124, am_dx_imul, dX9_findCleaned_125, dX9_findCleaned_127, am_dx_iadd, dX9_findCleaned_128, am_dx_bipush_m9, dX9_findCleaned_130, am_dx_iastore, dX9_findCleaned_131, am_dx_iinc_2_m1, dX9_findCleaned_134, dX9_findCleaned_135, dX9_findCleaned_136, dX9_findCleaned_139, dX9_findCleaned_140, dX9_findCleaned_143, dX9_findCleaned_144, dX9_findCleaned_145, dX9_findCleaned_148, dX9_findCleaned_149, dX9_findCleaned_152, dX9_findCleaned_153, dX9_findCleaned_154, dX9_findCleaned_157, dX9_findCleaned_158, am_dx_ireturn, lX9_findCleaned_238, am_cV_1, am_l0, am_l1, am_l2, am_l3, am_l4, lX9_findCleaned_241, lX9_findCleaned_38, am_fr_9_26, lX9_findCleaned_221, am_fr_9_18, am_fw_9_18, lX9_findCleaned_244, am_cV_2, lX9_findCleaned_23, am_fr_9_4, lX9_findCleaned_35, am_fr_9_17, am_kd_77, am_gr_77_26, am_kd_87, am_gr_77_4, am_kd_82, am_gr_77_17, am_kd_86, t, x1, am_c1, e82, am_lc_le0, c3]
    · exact stop (d + 1) M h g b (eb0 c2) c2 x y
