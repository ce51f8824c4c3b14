/-! cleaned pairs; the class's clean -/
def cl_w (h : am_H) (q n : Nat) (M : pm_M) : Option Nat := if 2 < pm_c M 8 then (wd (fun a => ft_m ((pml M n).map (cq h q)) (cq h q a)) (h.1 31 1).toInt64 (pml M n)).1 else none
def cl (h : am_H) (q n : Nat) : Nat → pm_M → pm_M
  | 0, M => M
  | d + 1, M => match cl_w h q n M with
    | none => M
    | some s => cl h q n d (pm_d M s)
theorem cl_n {h : am_H} {q n d : Nat} {M : pm_M} (e : cl_w h q n M = none) : cl h q n d M = M := by
  cases d with
  | zero => rfl
  | succ d => rw [cl, e]
theorem cl_s {h : am_H} {q n d s : Nat} {M : pm_M} (e : cl_w h q n M = some s) : cl h q n (d + 1) M = cl h q n d (pm_d M s) := by rw [cl, e]
theorem wd_some {f : Nat × Nat → Int64} {L : Int64} {l : List (Nat × Nat)} {s : Nat} (e : (wd f L l).1 = some s) : ∃ k, (s, k) ∈ l := by
  cases l with
  | nil => exact absurd e (by unfold wd; simp)
  | cons b l =>
    have hw := wd_fm f L b l
    have hi := fm_in f b l
    generalize fm f b l = a at hw hi
    by_cases c : L < f a
    · rw [hw.1 c] at e
      cases e
      exact ⟨a.2, hi⟩
    · rw [hw.2 c] at e
      cases e
theorem cl_w_s {h : am_H} {q n s : Nat} {M : pm_M} (e : cl_w h q n M = some s) : 2 < pm_c M 8 ∧ s < n ∧ ∃ k, M s = some k := by
  unfold cl_w at e
  by_cases c : 2 < pm_c M 8
  · rw [if_pos c] at e
    obtain ⟨k, hk⟩ := wd_some e
    have := pml_in.mp hk
    exact ⟨c, this.1, k, this.2⟩
  · rw [if_neg c] at e
    cases e
theorem cl_ok {h : am_H} {q n m : Nat} (d : Nat) {M : pm_M} (ok : pm_ok n m M) : pm_ok n m (cl h q n d M) := by
  induction d generalizing M with
  | zero => exact ok
  | succ d ih =>
    cases e : cl_w h q n M with
    | none => rw [cl_n e]; exact ok
    | some s => rw [cl_s e]; exact ih (pm_d_ok ok s)
theorem cq_cg {h k : am_H} {p : Nat} (hp : p < 2) (f : ∀ a, a ≤ 31 → k.1 a = h.1 a) : cq k p = cq h p := by
  funext a
  unfold cq
  rw [f 2 (by omega), f 3 (by omega), f (4 * (1 + p) + 2) (by omega), f (4 * (1 + p) + 3) (by omega)]
/-- the class's scratch for a plate's cleaned pairs -/
def cn_fr (h k : am_H) (p : Nat) : Prop := ∀ a, ¬ ((35 ≤ a ∧ a ≤ 56) ∨ (3 * p + 57 ≤ a ∧ a ≤ 3 * p + 59) ∨ (64 ≤ a ∧ a ≤ 68)) → k.1 a = h.1 a ∧ k.2 a = h.2 a
theorem cn_tr {a b c : am_H} {p : Nat} (h1 : cn_fr a b p) (h2 : cn_fr b c p) : cn_fr a c p := fun z hz => ⟨(h2 z hz).1.trans (h1 z hz).1, (h2 z hz).2.trans (h1 z hz).2⟩
theorem pg_cg {h k : am_H} {p : Nat} {M : pm_M} (e1 : k.1 (3 * p + 58) = h.1 (3 * p + 58)) (e2 : k.1 (3 * p + 59) = h.1 (3 * p + 59)) (g : pg_has h p M) : pg_has k p M := by
  refine ⟨fun s hs => by rw [e1]; exact g.1 s hs, fun j hj => ⟨fun t => ?_, fun t => ?_⟩⟩
  · rw [e2]; exact (g.2 j hj).1 t
  · rw [e2]; exact (g.2 j hj).2 t
theorem c_lp {h0 : am_H} (rl : Rl h0) {q : Nat} (hq : q < 2) {n m : Nat} (z1 : rl_n h0 0 n) (z2 : rl_n h0 (1 + q) m) (d : Nat) : ∀ i, i + d = 8 → ∀ (M : pm_M) (ok : pm_ok n m M) (h : am_H) (hb : bs_fr h0 h) (g : pg_has h q M) (ec : h.1 (3 * q + 57) 2 = nI (pm_c M 8)) (x : Option Value), ∃ k, am_Big GX8_clean cX8_clean (7, [some (.ref 0), some (.int (nI q)), some (.int (nI i)), x], [], h) (none, k) ∧ pg_has k q (cl h0 q n d M) ∧ k.1 (3 * q + 57) 2 = nI (pm_c (cl h0 q n d M) 8) ∧ cn_fr h k q := by
  have d1 : am_kd 1 = (1, 4) := rfl
  have hx : ∀ z : am_S, am_ix (nI q) 2 z = z := fun z => am_ix_c hq (by omega)
  have hcl := am_clp hq (by omega)
  have hgp := gr_63 hq
  obtain ⟨d0, d1', d2, d3, d4⟩ := pg_q hq
  induction d with
  | zero =>
    intro i hi M ok h hb g ec x
    have q6 : 8 ≤ nI i := nIle' (a := i) (b := 8) (by omega) (by omega)
    refine ⟨h, am_Big_end (sp := []) 40 ?_, g, ec, fun a ha => ⟨rfl, rfl⟩⟩
    simp only [am_go_s, am_bd_none, am_bd_rt, am_bd_nx, am_bd_ite, am_1i_c, am_2i_c, am_1l_c, am_2l_c, am_li_c, am_1r_c, am_ri_c, am_rii_c, am_ril_c, am_vi_c, am_vl_c, am_vr_c, am_ob_c, am_ob_n, am_ob_ite, am_kk_i, am_kk_r, am_kk_l, am_kk_n, am_ui_1, am_ui_2, am_ul_1, am_ul_2, am_b0, am_tl_s, am_tl_n, am_jp, am_ic, am_ct_n, am_ct_c, am_10, am_01, am_b1, am_nn, or_true, or_false, true_or, false_or, Int32.reduceLT, Int32.reduceLE, Int32.reduceAdd, Int32.reduceSub, not_true_eq_false, not_false_eq_true, Nat.reduceAdd, Int.reduceAdd, Int.reduceNeg, Int.reduceLE, Int.reduceSub, Int.reduceToNat, if_true, if_false, ite_true, ite_false, Bool.or_false, Bool.false_or, Bool.or_true, Bool.true_or, Nat.reduceBEq, Nat.reduceEqDiff, reduceIte, eq_self, false_and, and_false, true_and, and_true, Bool.false_eq_true, Bool.true_eq_false, reduceCtorEq, dX8_clean_0, am_dx_aload_n_0, am_ld_0, dX8_clean_1, am_dx_iload_n_1, am_ld_1, dX8_clean_2, am_dx_invokevirtual, dX8_clean_5, am_dx_iconst_0, dX8_clean_6, am_dx_istore_n_2, am_set_2, am_set_1, am_st1_2, am_lnl_2, dX8_clean_7, am_dx_iload_n_2, am_ld_2, dX8_clean_8, am_dx_bipush_8, dX8_clean_10, am_dx_if_icmp_ge, dX8_clean_13, dX8_clean_14, am_dx_getfield, dX8_clean_17, dX8_clean_18, am_dx_aaload, dX8_clean_19, dX8_clean_22, am_dx_iconst_2, dX8_clean_23, am_dx_if_icmp_le, dX8_clean_26, dX8_clean_27, dX8_clean_28, dX8_clean_31, am_dx_ifCond_ne, dX8_clean_34, am_dx_goto, dX8_clean_37, dX8_clean_38, dX8_clean_39, dX8_clean_42, am_dx_istore_n_3, am_set_3, am_st1_3, am_lnl_3, dX8_clean_43, am_dx_iload_n_3, am_ld_3, dX8_clean_44, am_dx_bipush_m9, dX8_clean_46, am_dx_if_icmp_ne, dX8_clean_49, dX8_clean_52, dX8_clean_53, dX8_clean_56, dX8_clean_57, dX8_clean_58, dX8_clean_59, dX8_clean_62, am_dx_iinc_2_1, dX8_clean_65, dX8_clean_68, am_dx_return, lX8_clean_173, am_cV_1, am_l0, am_l1, am_l2, am_l3, am_l4, lX8_clean_58, am_fr_8_8, lX8_clean_262, am_fr_4_2, am_fw_4_2, lX8_clean_181, lX8_clean_276, lX8_clean_279, am_kd_0, am_gr_0_8, am_kd_63, q6]
  | succ d ih =>
    intro i hi M ok h hb g ec x
    have q6 : ¬ 8 ≤ nI i := nIlt' (a := i) (b := 8) (by omega) (by omega)
    have hc8 := pm_c_le M 8
    have hn8 := z1.1
    by_cases c2 : 2 < pm_c M 8
    · obtain ⟨s1, s2, s3, s4, s5⟩ := rl_q rl hq z1 z2 ok
      obtain ⟨s4, s6⟩ := s4 (by omega)
      have q7 : ¬ nI (pm_c M 8) ≤ 2 := nIlt' (a := 2) (b := pm_c M 8) (by omega) c2
      have ecq : cq h q = cq h0 q := cq_cg hq (fun a ha => hb a (by omega))
      have hM : ∀ s k, M s = some k → k < 8 := fun s k e => by have := (ok.1 s k e).2; have := z2.1; omega
      have e1 : h.1 1 3 = nI n := by rw [hb 1 (by omega)]; exact z1.2.1
      obtain ⟨h2, t1, -, t3, t4, t5⟩ := m_X8_fitPairs q hq n hn8 M hM h e1 g _ (by rw [ecq])
      have t1 := t1 ⟨by omega, s4⟩
      have hb2 : bs_fr h0 h2 := fun a ha => by rw [(t5 a (by omega)).1]; exact hb a ha
      have g2 : pg_has h2 q M := pg_cg ((t5 _ (by omega)).1) ((t5 _ (by omega)).1) g
      have ecq2 : cq h2 q = cq h0 q := cq_cg hq (fun a ha => hb2 a (by omega))
      have u := m_X8_starToDrop q hq n hn8 M hM h2 (by rw [(t5 1 (by omega)).1]; exact e1) g2 _ t3 t4 s6 (fun a => ft_m ((pml M n).map (cq h0 q)) (cq h0 q a)) (by rw [ecq2]) (h0.1 31 1).toInt64 (by rw [hb2 31 (by omega)])
      have ew : cl_w h0 q n M = (wd (fun a => ft_m ((pml M n).map (cq h0 q)) (cq h0 q a)) (h0.1 31 1).toInt64 (pml M n)).1 := by unfold cl_w; rw [if_pos c2]
      rw [← ew] at u
      cases e : cl_w h0 q n M with
      | none =>
        rw [e, show mv none = -9 from rfl] at u
        rw [cl_n e]
        refine ⟨h2, am_Big_end (sp := []) 60 ?_, g2, by rw [(t5 _ (by omega)).1]; exact ec, fun a ha => t5 a (by omega)⟩
        simp only [am_go_s, am_bd_none, am_bd_rt, am_bd_nx, am_bd_ite, am_1i_c, am_2i_c, am_1l_c, am_2l_c, am_li_c, am_1r_c, am_ri_c, am_rii_c, am_ril_c, am_vi_c, am_vl_c, am_vr_c, am_ob_c, am_ob_n, am_ob_ite, am_kk_i, am_kk_r, am_kk_l, am_kk_n, am_ui_1, am_ui_2, am_ul_1, am_ul_2, am_b0, am_tl_s, am_tl_n, am_jp, am_ic, am_ct_n, am_ct_c, am_10, am_01, am_b1, am_nn, or_true, or_false, true_or, false_or, Int32.reduceLT, Int32.reduceLE, Int32.reduceAdd, Int32.reduceSub, not_true_eq_false, not_false_eq_true, Nat.reduceAdd, Int.reduceAdd, Int.reduceNeg, Int.reduceLE, Int.reduceSub, Int.reduceToNat, if_true, if_false, ite_true, ite_false, Bool.or_false, Bool.false_or, Bool.or_true, Bool.true_or, Nat.reduceBEq, Nat.reduceEqDiff, reduceIte, eq_self, false_and, and_false, true_and, and_true, Bool.false_eq_true, Bool.true_eq_false, reduceCtorEq, dX8_clean_0, am_dx_aload_n_0, am_ld_0, dX8_clean_1, am_dx_iload_n_1, am_ld_1, dX8_clean_2, am_dx_invokevirtual, dX8_clean_5, am_dx_iconst_0, dX8_clean_6, am_dx_istore_n_2, am_set_2, am_set_1, am_st1_2, am_lnl_2, dX8_clean_7, am_dx_iload_n_2, am_ld_2, dX8_clean_8, am_dx_bipush_8, dX8_clean_10, am_dx_if_icmp_ge, dX8_clean_13, dX8_clean_14, am_dx_getfield, dX8_clean_17, dX8_clean_18, am_dx_aaload, dX8_clean_19, dX8_clean_22, am_dx_iconst_2, dX8_clean_23, am_dx_if_icmp_le, dX8_clean_26, dX8_clean_27, dX8_clean_28, dX8_clean_31, am_dx_ifCond_ne, dX8_clean_34, am_dx_goto, dX8_clean_37, dX8_clean_38, dX8_clean_39, dX8_clean_42, am_dx_istore_n_3, am_set_3, am_st1_3, am_lnl_3, dX8_clean_43, am_dx_iload_n_3, am_ld_3, dX8_clean_44, am_dx_bipush_m9, dX8_clean_46, am_dx_if_icmp_ne, dX8_clean_49, dX8_clean_52, dX8_clean_53, dX8_clean_56, dX8_clean_57, dX8_clean_58, dX8_clean_59, dX8_clean_62, am_dx_iinc_2_1, dX8_clean_65, dX8_clean_68, am_dx_return, lX8_clean_173, am_cV_1, am_l0, am_l1, am_l2, am_l3, am_l4, lX8_clean_58, am_fr_8_8, lX8_clean_262, am_fr_4_2, am_fw_4_2, lX8_clean_181, lX8_clean_276, lX8_clean_279, am_kd_0, am_gr_0_8, am_kd_63, q6, hx, hcl, hgp, d0, ec, q7, t1, u]
      | some s =>
        obtain ⟨-, ls, k, ek⟩ := cl_w_s e
        rw [e, show mv (some s) = nI s from rfl] at u
        rw [cl_s e]
        have n9 : ¬ nI s = -9 := mv_9 (by omega)
        obtain ⟨c, hc⟩ : ∃ c, pm_c M 8 = c + 1 := ⟨pm_c M 8 - 1, by omega⟩
        have ec2 : h2.1 (3 * q + 57) 2 = nI (c + 1) := by rw [(t5 _ (by omega)).1, ec, hc]
        obtain ⟨h3, w1, w2, w3, w4⟩ := m_X4_drop q hq n m hn8 z2.1 M ok h2 g2 s k ek c ec2
        have hcd : pm_c (pm_d M s) 8 = c := by
          have := pm_d_c M s k 8 ek
          rw [if_pos (by omega)] at this
          omega
        have f3 : cn_fr h h3 q := fun a ha => ⟨by rw [w4.2 a (by omega)]; exact (t5 a (by omega)).1, by rw [w4.1]; exact (t5 a (by omega)).2⟩
        have hb3 : bs_fr h0 h3 := fun a ha => by rw [(f3 a (by omega)).1]; exact hb a ha
        obtain ⟨k4, y1, y2, y3, y4⟩ := ih (i + 1) (by omega) (pm_d M s) (pm_d_ok ok s) h3 hb3 w2 (by rw [hcd]; exact w3) (some (.int (nI s)))
        refine ⟨k4, ?_, y2, y3, cn_tr f3 y4⟩
        have re : am_Re GX8_clean cX8_clean (7, [some (.ref 0), some (.int (nI q)), some (.int (nI i)), x], [], h) (7, [some (.ref 0), some (.int (nI q)), some (.int (nI (i + 1))), some (.int (nI s))], [], h3) := by
          refine am_Re_go (sp := [7]) 60 ?_
          simp only [am_go_s, am_bd_none, am_bd_rt, am_bd_nx, am_bd_ite, am_1i_c, am_2i_c, am_1l_c, am_2l_c, am_li_c, am_1r_c, am_ri_c, am_rii_c, am_ril_c, am_vi_c, am_vl_c, am_vr_c, am_ob_c, am_ob_n, am_ob_ite, am_kk_i, am_kk_r, am_kk_l, am_kk_n, am_ui_1, am_ui_2, am_ul_1, am_ul_2, am_b0, am_tl_s, am_tl_n, am_jp, am_ic, am_ct_n, am_ct_c, am_10, am_01, am_b1, am_nn, or_true, or_false, true_or, false_or, Int32.reduceLT, Int32.reduceLE, Int32.reduceAdd, Int32.reduceSub, not_true_eq_false, not_false_eq_true, Nat.reduceAdd, Int.reduceAdd, Int.reduceNeg, Int.reduceLE, Int.reduceSub, Int.reduceToNat, if_true, if_false, ite_true, ite_false, Bool.or_false, Bool.false_or, Bool.or_true, Bool.true_or, Nat.reduceBEq, Nat.reduceEqDiff, reduceIte, eq_self, false_and, and_false, true_and, and_true, Bool.false_eq_true, Bool.true_eq_false, reduceCtorEq, dX8_clean_0, am_dx_aload_n_0, am_ld_0, dX8_clean_1, am_dx_iload_n_1, am_ld_1, dX8_clean_2, am_dx_invokevirtual, dX8_clean_5, am_dx_iconst_0, dX8_clean_6, am_dx_istore_n_2, am_set_2, am_set_1, am_st1_2, am_lnl_2, dX8_clean_7, am_dx_iload_n_2, am_ld_2, dX8_clean_8, am_dx_bipush_8, dX8_clean_10, am_dx_if_icmp_ge, dX8_clean_13, dX8_clean_14, am_dx_getfield, dX8_clean_17, dX8_clean_18, am_dx_aaload, dX8_clean_19, dX8_clean_22, am_dx_iconst_2, dX8_clean_23, am_dx_if_icmp_le, dX8_clean_26, dX8_clean_27, dX8_clean_28, dX8_clean_31, am_dx_ifCond_ne, dX8_clean_34, am_dx_goto, dX8_clean_37, dX8_clean_38, dX8_clean_39, dX8_clean_42, am_dx_istore_n_3, am_set_3, am_st1_3, am_lnl_3, dX8_clean_43, am_dx_iload_n_3, am_ld_3, dX8_clean_44, am_dx_bipush_m9, dX8_clean_46, am_dx_if_icmp_ne, dX8_clean_49, dX8_clean_52, dX8_clean_53, dX8_clean_56, dX8_clean_57, dX8_clean_58, dX8_clean_59, dX8_clean_62, am_dx_iinc_2_1, dX8_clean_65, dX8_clean_68, am_dx_return, lX8_clean_173, am_cV_1, am_l0, am_l1, am_l2, am_l3, am_l4, lX8_clean_58, am_fr_8_8, lX8_clean_262, am_fr_4_2, am_fw_4_2, lX8_clean_181, lX8_clean_276, lX8_clean_279, am_kd_0, am_gr_0_8, am_kd_63, q6, hx, hcl, hgp, d0, ec, q7, t1, u, n9, w1, nI_1p]
        exact re _ y1
    · have q7 : nI (pm_c M 8) ≤ 2 := nIle' (a := 2) (b := pm_c M 8) (by omega) (by omega)
      have e : cl_w h0 q n M = none := by unfold cl_w; rw [if_neg c2]
      rw [cl_n e]
      refine ⟨h, am_Big_end (sp := []) 40 ?_, g, ec, fun a ha => ⟨rfl, rfl⟩⟩
      simp only [am_go_s, am_bd_none, am_bd_rt, am_bd_nx, am_bd_ite, am_1i_c, am_2i_c, am_1l_c, am_2l_c, am_li_c, am_1r_c, am_ri_c, am_rii_c, am_ril_c, am_vi_c, am_vl_c, am_vr_c, am_ob_c, am_ob_n, am_ob_ite, am_kk_i, am_kk_r, am_kk_l, am_kk_n, am_ui_1, am_ui_2, am_ul_1, am_ul_2, am_b0, am_tl_s, am_tl_n, am_jp, am_ic, am_ct_n, am_ct_c, am_10, am_01, am_b1, am_nn, or_true, or_false, true_or, false_or, Int32.reduceLT, Int32.reduceLE, Int32.reduceAdd, Int32.reduceSub, not_true_eq_false, not_false_eq_true, Nat.reduceAdd, Int.reduceAdd, Int.reduceNeg, Int.reduceLE, Int.reduceSub, Int.reduceToNat, if_true, if_false, ite_true, ite_false, Bool.or_false, Bool.false_or, Bool.or_true, Bool.true_or, Nat.reduceBEq, Nat.reduceEqDiff, reduceIte, eq_self, false_and, and_false, true_and, and_true, Bool.false_eq_true, Bool.true_eq_false, reduceCtorEq, dX8_clean_0, am_dx_aload_n_0, am_ld_0, dX8_clean_1, am_dx_iload_n_1, am_ld_1, dX8_clean_2, am_dx_invokevirtual, dX8_clean_5, am_dx_iconst_0, dX8_clean_6, am_dx_istore_n_2, am_set_2, am_set_1, am_st1_2, am_lnl_2, dX8_clean_7, am_dx_iload_n_2, am_ld_2, dX8_clean_8, am_dx_bipush_8, dX8_clean_10, am_dx_if_icmp_ge, dX8_clean_13, dX8_clean_14, am_dx_getfield, dX8_clean_17, dX8_clean_18, am_dx_aaload, dX8_clean_19, dX8_clean_22, am_dx_iconst_2, dX8_clean_23, am_dx_if_icmp_le, dX8_clean_26, dX8_clean_27, dX8_clean_28, dX8_clean_31, am_dx_ifCond_ne, dX8_clean_34, am_dx_goto, dX8_clean_37, dX8_clean_38, dX8_clean_39, dX8_clean_42, am_dx_istore_n_3, am_set_3, am_st1_3, am_lnl_3, dX8_clean_43, am_dx_iload_n_3, am_ld_3, dX8_clean_44, am_dx_bipush_m9, dX8_clean_46, am_dx_if_icmp_ne, dX8_clean_49, dX8_clean_52, dX8_clean_53, dX8_clean_56, dX8_clean_57, dX8_clean_58, dX8_clean_59, dX8_clean_62, am_dx_iinc_2_1, dX8_clean_65, dX8_clean_68, am_dx_return, lX8_clean_173, am_cV_1, am_l0, am_l1, am_l2, am_l3, am_l4, lX8_clean_58, am_fr_8_8, lX8_clean_262, am_fr_4_2, am_fw_4_2, lX8_clean_181, lX8_clean_276, lX8_clean_279, am_kd_0, am_gr_0_8, am_kd_63, q6, hx, hcl, hgp, d0, ec, q7]
