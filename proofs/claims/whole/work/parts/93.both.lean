/-! both plates: cleaned, in both; both -/
def fb_fr (h k : am_H) : Prop := (∀ a, a ≠ 77 → ¬ (83 ≤ a ∧ a ≤ 88) → k.1 a = h.1 a) ∧ (∀ a, a ≠ 77 → k.2 a = h.2 a) ∧ ∀ b, ¬ (5 ≤ b ∧ b ≤ 15) → b ≠ 18 → k.1 77 b = h.1 77 b
theorem fb_fc {h k : am_H} {p : Nat} (f : fc_fr h k p) : fb_fr h k := ⟨f.1, f.2.1, f.2.2.1⟩
theorem fb_tr {a b c : am_H} (h1 : fb_fr a b) (h2 : fb_fr b c) : fb_fr a c := ⟨fun z c1 c2 => (h2.1 z c1 c2).trans (h1.1 z c1 c2), fun z c1 => (h2.2.1 z c1).trans (h1.2.1 z c1), fun z c1 c2 => (h2.2.2 z c1 c2).trans (h1.2.2 z c1 c2)⟩
theorem fb_rs {h k : am_H} (f : fb_fr h k) : rs_fr h k := fun a ha => ⟨f.1 a (by omega) (by omega), f.2.1 a (by omega)⟩
def rl_bd (h : am_H) (M0 M1 : pm_M) (n m0 m1 : Nat) : Prop := rl_n h 0 n ∧ rl_n h 1 m0 ∧ rl_n h 2 m1 ∧ pm_ok n m0 M0 ∧ pm_ok n m1 M1 ∧ (∀ k, bs_fr h k → ∃ h1 h2, fX8_clean [.ref 0, .int 0] k = some (none, h1) ∧ fX8_clean [.ref 0, .int 1] h1 = some (none, h2) ∧ pg_has h2 0 M0 ∧ pg_has h2 1 M1 ∧ cs_fr k h2) ∧ (∀ k, bs_fr h k → ∃ v1 v2 h1 h2, fX9_findCleaned [.ref 77, .int 0] k = some (some (.int v1), h1) ∧ fX9_findCleaned [.ref 77, .int 1] h1 = some (some (.int v2), h2) ∧ mr_has h2 0 M0 ∧ mr_has h2 1 M1 ∧ fb_fr k h2)
theorem rl_both {h : am_H} (r : Rl h) : ∃ M0 M1 n m0 m1, rl_bd h M0 M1 n m0 m1 := by
  obtain ⟨M0, n, m0, a1, a2, a3, a4, a5⟩ := rl_clean r (q := 0) (by omega)
  obtain ⟨M1, n', m1, b1, b2, b3, b4, b5⟩ := rl_clean r (q := 1) (by omega)
  have en : n' = n := nI_i (by have := b1.1; omega) (by have := a1.1; omega) (b1.2.1.symm.trans a1.2.1)
  subst en
  refine ⟨M0, M1, n', m0, m1, a1, a2, b2, a3, b3, fun k f => ?_, fun k f => ?_⟩
  · obtain ⟨h1, k1, k2, k3, k4⟩ := a4 k f
    have f1 := cs_cn (p := 0) (by omega) k4
    obtain ⟨h2, j1, j2, j3, j4⟩ := b4 h1 (bs_tr f (bs_cs f1))
    exact ⟨h1, h2, k1, j1, pg_cg (j4 _ (by omega)).1 (j4 _ (by omega)).1 k2, j2, cs_tr f1 (cs_cn (p := 1) (by omega) j4)⟩
  · obtain ⟨h1, k1, k2, k3⟩ := a5 k f
    obtain ⟨h2, j1, j2, j3⟩ := b5 h1 (bs_tr f (bs_rs (fc_rs k3)))
    exact ⟨_, _, h1, h2, k1, j1, fun s hs => by rw [j3.2.2.2 _ (by omega)]; exact k2.1 s hs, j2.1, fb_tr (fb_fc k3) (fb_fc j3)⟩
def bi (M0 M1 : pm_M) (s : Nat) : Bool := (M0 s).isSome && (M1 s).isSome
theorem bi_t {M0 M1 : pm_M} {s : Nat} (h : bi M0 M1 s = true) : ∃ k l, M0 s = some k ∧ M1 s = some l := by
  unfold bi at h
  cases e0 : M0 s with
  | none => rw [e0] at h; simp at h
  | some k =>
    cases e1 : M1 s with
    | none => rw [e1] at h; simp at h
    | some l => exact ⟨k, l, rfl, rfl⟩
theorem bi_f {M0 M1 : pm_M} {s : Nat} (h : ¬ bi M0 M1 s = true) : M0 s = none ∨ ∃ k, M0 s = some k ∧ M1 s = none := by
  unfold bi at h
  cases e0 : M0 s with
  | none => exact Or.inl rfl
  | some k =>
    cases e1 : M1 s with
    | none => exact Or.inr ⟨k, rfl, rfl⟩
    | some l => rw [e0, e1] at h; simp at h
theorem bi_s {M0 M1 : pm_M} {s k l : Nat} (e0 : M0 s = some k) (e1 : M1 s = some l) : bi M0 M1 s = true := by
  unfold bi
  rw [e0, e1]
  rfl
/-- what Pairing.holds says of a star -/
theorem h_pg {p : Nat} (hp : p < 2) {M : pm_M} (hM : ∀ s k, M s = some k → k < 8) {h : am_H} (g : pg_has h p M) {s : Nat} (hs : s < 8) : (M s = none → fX4_holds [.ref (3 * p + 57), .int (nI s)] h = some (some (.int 0), h)) ∧ ∀ k, M s = some k → fX4_holds [.ref (3 * p + 57), .int (nI s)] h = some (some (.int 1), h) ∧ h.1 (3 * p + 58) s = nI k ∧ k < 8 := by
  obtain ⟨w1, w2⟩ := m_X4_holds p hp s hs h
  have es := g.1 s hs
  refine ⟨fun e => w1 (by rw [es, e]; rfl), fun k e => ?_⟩
  have hk := hM s k e
  have e9 : h.1 (3 * p + 58) s = nI k := by rw [es, e]; rfl
  exact ⟨w2 (by rw [e9]; exact mv_9 (by omega)), e9, hk⟩
theorem ix2 : (∀ z : am_S, am_ix 0 2 z = z) ∧ ∀ z : am_S, am_ix 1 2 z = z := ⟨fun _ => rfl, fun _ => rfl⟩
theorem m_X8_isInBoth (M0 M1 : pm_M) (hM0 : ∀ s k, M0 s = some k → k < 8) (hM1 : ∀ s k, M1 s = some k → k < 8) (h : am_H) (g0 : pg_has h 0 M0) (g1 : pg_has h 1 M1) (s : Nat) (hs : s < 8) : (bi M0 M1 s = true → fX8_isInBoth [.ref 0, .int (nI s)] h = some (some (.int 1), h)) ∧ (¬ bi M0 M1 s = true → fX8_isInBoth [.ref 0, .int (nI s)] h = some (some (.int 0), h)) := by
  obtain ⟨w1, w2⟩ := h_pg (p := 0) (by omega) hM0 g0 hs
  obtain ⟨v1, v2⟩ := h_pg (p := 1) (by omega) hM1 g1 hs
  have x0 := ix2.1
  have x1 := ix2.2
  have r0 : am_gr 63 0 = 57 := rfl
  have r1 : am_gr 63 1 = 60 := rfl
  have k0 : am_kd 57 = (4, 3) := rfl
  have k1 : am_kd 60 = (4, 3) := rfl
  refine ⟨fun c => ?_, fun c => ?_⟩
  · obtain ⟨k, l, e0, e1⟩ := bi_t c
    have w : fX4_holds [.ref 57, .int (nI s)] h = some (some (.int 1), h) := (w2 k e0).1
    have v : fX4_holds [.ref 60, .int (nI s)] h = some (some (.int 1), h) := (v2 l e1).1
    refine am_run1 60 [some (.ref 0), some (.int (nI s))] rfl rfl rfl ?_
    simp only [am_go_s, am_bd_none, am_bd_rt, am_bd_nx, am_bd_ite, am_1i_c, am_2i_c, am_1l_c, am_2l_c, am_li_c, am_1r_c, am_ri_c, am_rii_c, am_ril_c, am_vi_c, am_vl_c, am_vr_c, am_ob_c, am_ob_n, am_ob_ite, am_kk_i, am_kk_r, am_kk_l, am_kk_n, am_ui_1, am_ui_2, am_ul_1, am_ul_2, am_b0, am_tl_s, am_tl_n, am_jp, am_ic, am_ct_n, am_ct_c, am_10, am_01, am_b1, am_nn, or_true, or_false, true_or, false_or, Int32.reduceLT, Int32.reduceLE, Int32.reduceAdd, Int32.reduceSub, not_true_eq_false, not_false_eq_true, Nat.reduceAdd, Int.reduceAdd, Int.reduceNeg, Int.reduceLE, Int.reduceSub, Int.reduceToNat, if_true, if_false, ite_true, ite_false, Bool.or_false, Bool.false_or, Bool.or_true, Bool.true_or, Nat.reduceBEq, Nat.reduceEqDiff, reduceIte, eq_self, false_and, and_false, true_and, and_true, Bool.false_eq_true, Bool.true_eq_false, reduceCtorEq, dX8_isInBoth_0, am_dx_aload_n_0, am_ld_0, dX8_isInBoth_1, am_dx_getfield, dX8_isInBoth_4, am_dx_iconst_0, dX8_isInBoth_5, am_dx_aaload, dX8_isInBoth_6, am_dx_iload_n_1, am_ld_1, dX8_isInBoth_7, am_dx_invokevirtual, dX8_isInBoth_10, am_dx_ifCond_eq, dX8_isInBoth_13, dX8_isInBoth_14, dX8_isInBoth_17, am_dx_iconst_1, dX8_isInBoth_18, dX8_isInBoth_19, dX8_isInBoth_20, dX8_isInBoth_23, dX8_isInBoth_26, dX8_isInBoth_27, am_dx_goto, dX8_isInBoth_30, dX8_isInBoth_31, am_dx_ireturn, lX8_isInBoth_58, am_fr_8_8, lX8_isInBoth_208, am_cV_1, am_l0, am_l1, am_l2, am_l3, am_l4, am_kd_0, am_gr_0_8, am_kd_63, x0, x1, am_c0, am_c1, r0, r1, k0, k1, w, v]
  · rcases bi_f c with e0 | ⟨k, e0, e1⟩
    · have w : fX4_holds [.ref 57, .int (nI s)] h = some (some (.int 0), h) := w1 e0
      refine am_run1 60 [some (.ref 0), some (.int (nI s))] rfl rfl rfl ?_
      simp only [am_go_s, am_bd_none, am_bd_rt, am_bd_nx, am_bd_ite, am_1i_c, am_2i_c, am_1l_c, am_2l_c, am_li_c, am_1r_c, am_ri_c, am_rii_c, am_ril_c, am_vi_c, am_vl_c, am_vr_c, am_ob_c, am_ob_n, am_ob_ite, am_kk_i, am_kk_r, am_kk_l, am_kk_n, am_ui_1, am_ui_2, am_ul_1, am_ul_2, am_b0, am_tl_s, am_tl_n, am_jp, am_ic, am_ct_n, am_ct_c, am_10, am_01, am_b1, am_nn, or_true, or_false, true_or, false_or, Int32.reduceLT, Int32.reduceLE, Int32.reduceAdd, Int32.reduceSub, not_true_eq_false, not_false_eq_true, Nat.reduceAdd, Int.reduceAdd, Int.reduceNeg, Int.reduceLE, Int.reduceSub, Int.reduceToNat, if_true, if_false, ite_true, ite_false, Bool.or_false, Bool.false_or, Bool.or_true, Bool.true_or, Nat.reduceBEq, Nat.reduceEqDiff, reduceIte, eq_self, false_and, and_false, true_and, and_true, Bool.false_eq_true, Bool.true_eq_false, reduceCtorEq, dX8_isInBoth_0, am_dx_aload_n_0, am_ld_0, dX8_isInBoth_1, am_dx_getfield, dX8_isInBoth_4, am_dx_iconst_0, dX8_isInBoth_5, am_dx_aaload, dX8_isInBoth_6, am_dx_iload_n_1, am_ld_1, dX8_isInBoth_7, am_dx_invokevirtual, dX8_isInBoth_10, am_dx_ifCond_eq, dX8_isInBoth_13, dX8_isInBoth_14, dX8_isInBoth_17, am_dx_iconst_1, dX8_isInBoth_18, dX8_isInBoth_19, dX8_isInBoth_20, dX8_isInBoth_23, dX8_isInBoth_26, dX8_isInBoth_27, am_dx_goto, dX8_isInBoth_30, dX8_isInBoth_31, am_dx_ireturn, lX8_isInBoth_58, am_fr_8_8, lX8_isInBoth_208, am_cV_1, am_l0, am_l1, am_l2, am_l3, am_l4, am_kd_0, am_gr_0_8, am_kd_63, x0, x1, am_c0, am_c1, r0, r1, k0, k1, w]
    · have w : fX4_holds [.ref 57, .int (nI s)] h = some (some (.int 1), h) := (w2 k e0).1
      have v : fX4_holds [.ref 60, .int (nI s)] h = some (some (.int 0), h) := v1 e1
      refine am_run1 60 [some (.ref 0), some (.int (nI s))] rfl rfl rfl ?_
      simp only [am_go_s, am_bd_none, am_bd_rt, am_bd_nx, am_bd_ite, am_1i_c, am_2i_c, am_1l_c, am_2l_c, am_li_c, am_1r_c, am_ri_c, am_rii_c, am_ril_c, am_vi_c, am_vl_c, am_vr_c, am_ob_c, am_ob_n, am_ob_ite, am_kk_i, am_kk_r, am_kk_l, am_kk_n, am_ui_1, am_ui_2, am_ul_1, am_ul_2, am_b0, am_tl_s, am_tl_n, am_jp, am_ic, am_ct_n, am_ct_c, am_10, am_01, am_b1, am_nn, or_true, or_false, true_or, false_or, Int32.reduceLT, Int32.reduceLE, Int32.reduceAdd, Int32.reduceSub, not_true_eq_false, not_false_eq_true, Nat.reduceAdd, Int.reduceAdd, Int.reduceNeg, Int.reduceLE, Int.reduceSub, Int.reduceToNat, if_true, if_false, ite_true, ite_false, Bool.or_false, Bool.false_or, Bool.or_true, Bool.true_or, Nat.reduceBEq, Nat.reduceEqDiff, reduceIte, eq_self, false_and, and_false, true_and, and_true, Bool.false_eq_true, Bool.true_eq_false, reduceCtorEq, dX8_isInBoth_0, am_dx_aload_n_0, am_ld_0, dX8_isInBoth_1, am_dx_getfield, dX8_isInBoth_4, am_dx_iconst_0, dX8_isInBoth_5, am_dx_aaload, dX8_isInBoth_6, am_dx_iload_n_1, am_ld_1, dX8_isInBoth_7, am_dx_invokevirtual, dX8_isInBoth_10, am_dx_ifCond_eq, dX8_isInBoth_13, dX8_isInBoth_14, dX8_isInBoth_17, am_dx_iconst_1, dX8_isInBoth_18, dX8_isInBoth_19, dX8_isInBoth_20, dX8_isInBoth_23, dX8_isInBoth_26, dX8_isInBoth_27, am_dx_goto, dX8_isInBoth_30, dX8_isInBoth_31, am_dx_ireturn, lX8_isInBoth_58, am_fr_8_8, lX8_isInBoth_208, am_cV_1, am_l0, am_l1, am_l2, am_l3, am_l4, am_kd_0, am_gr_0_8, am_kd_63, x0, x1, am_c0, am_c1, r0, r1, k0, k1, w, v]
def bt (P : Nat → Bool) : Nat → Int32
  | 0 => 0
  | s + 1 => if P s = true then bt P s ||| ((1 : Int32) <<< (nI s &&& 31)) else bt P s
theorem bt_p {P : Nat → Bool} {s : Nat} (h : P s = true) : bt P (s + 1) = bt P s ||| ((1 : Int32) <<< (nI s &&& 31)) := by rw [bt, if_pos h]
theorem bt_n {P : Nat → Bool} {s : Nat} (h : ¬ P s = true) : bt P (s + 1) = bt P s := by rw [bt, if_neg h]
theorem c_both (n : Nat) (hn : n ≤ 8) (h : am_H) (e1 : h.1 1 3 = nI n) (P : Nat → Bool) (hP : ∀ s, s < n → (P s = true → fX8_isInBoth [.ref 0, .int (nI s)] h = some (some (.int 1), h)) ∧ (¬ P s = true → fX8_isInBoth [.ref 0, .int (nI s)] h = some (some (.int 0), h))) : am_Big GX8_both cX8_both (14, [some (.ref 0), some (.int 0), some (.int (nI 0))], [], h) (some (.int (bt P n)), h) := by
  have d1 : am_kd 1 = (1, 4) := rfl
  obtain ⟨w2, i1, r1⟩ := am_loopS (G := GX8_both) (cc := cX8_both) (fun s (w : Int32) => (14, [some (.ref 0), some (.int w), some (.int (nI s))], [], h)) (fun s w => w = bt P s) 0 n (by omega) (fun s _ hs w hI => by
    have q6 := nIlt' (a := s) (b := n) (by omega) hs
    obtain ⟨t1, t2⟩ := hP s hs
    by_cases c : P s = true
    · have t := t1 c
      refine ⟨_, (bt_p c).symm, am_Re_go (sp := [14]) 60 ?_⟩
      rw [← hI]
      simp only [am_go_s, am_bd_none, am_bd_rt, am_bd_nx, am_bd_ite, am_1i_c, am_2i_c, am_1l_c, am_2l_c, am_li_c, am_1r_c, am_ri_c, am_rii_c, am_ril_c, am_vi_c, am_vl_c, am_vr_c, am_ob_c, am_ob_n, am_ob_ite, am_kk_i, am_kk_r, am_kk_l, am_kk_n, am_ui_1, am_ui_2, am_ul_1, am_ul_2, am_b0, am_tl_s, am_tl_n, am_jp, am_ic, am_ct_n, am_ct_c, am_10, am_01, am_b1, am_nn, or_true, or_false, true_or, false_or, Int32.reduceLT, Int32.reduceLE, Int32.reduceAdd, Int32.reduceSub, not_true_eq_false, not_false_eq_true, Nat.reduceAdd, Int.reduceAdd, Int.reduceNeg, Int.reduceLE, Int.reduceSub, Int.reduceToNat, if_true, if_false, ite_true, ite_false, Bool.or_false, Bool.false_or, Bool.or_true, Bool.true_or, Nat.reduceBEq, Nat.reduceEqDiff, reduceIte, eq_self, false_and, and_false, true_and, and_true, Bool.false_eq_true, Bool.true_eq_false, reduceCtorEq, dX8_both_0, am_dx_aload_n_0, am_ld_0, dX8_both_1, am_dx_iconst_0, dX8_both_2, am_dx_invokevirtual, dX8_both_5, dX8_both_6, am_dx_iconst_1, dX8_both_7, dX8_both_10, dX8_both_11, am_dx_istore_n_1, am_set_1, am_set_0, am_st1_1, am_lnl_1, dX8_both_12, dX8_both_13, am_dx_istore_n_2, am_set_2, am_ld_1, am_st1_2, am_lnl_2, dX8_both_14, am_dx_iload_n_2, am_ld_2, dX8_both_15, dX8_both_16, am_dx_getfield, dX8_both_19, dX8_both_22, am_dx_if_icmp_ge, dX8_both_25, dX8_both_26, dX8_both_27, dX8_both_30, am_dx_ifCond_eq, dX8_both_33, am_dx_iload_n_1, dX8_both_34, dX8_both_35, dX8_both_36, am_dx_ishl, dX8_both_37, am_dx_ior, dX8_both_38, dX8_both_39, am_dx_iinc_2_1, dX8_both_42, am_dx_goto, dX8_both_45, dX8_both_46, am_dx_ireturn, lX8_both_169, am_cV_1, am_l0, am_l1, am_l2, am_l3, am_l4, lX8_both_14, am_fr_8_0, lX8_both_215, am_fr_1_3, am_fw_1_3, lX8_both_221, am_kd_0, am_gr_0_0, am_kd_1, e1, q6, d1, t, nI_1p]
    · have t := t2 c
      refine ⟨w, by rw [bt_n c]; exact hI, am_Re_go (sp := [14]) 60 ?_⟩
      simp only [am_go_s, am_bd_none, am_bd_rt, am_bd_nx, am_bd_ite, am_1i_c, am_2i_c, am_1l_c, am_2l_c, am_li_c, am_1r_c, am_ri_c, am_rii_c, am_ril_c, am_vi_c, am_vl_c, am_vr_c, am_ob_c, am_ob_n, am_ob_ite, am_kk_i, am_kk_r, am_kk_l, am_kk_n, am_ui_1, am_ui_2, am_ul_1, am_ul_2, am_b0, am_tl_s, am_tl_n, am_jp, am_ic, am_ct_n, am_ct_c, am_10, am_01, am_b1, am_nn, or_true, or_false, true_or, false_or, Int32.reduceLT, Int32.reduceLE, Int32.reduceAdd, Int32.reduceSub, not_true_eq_false, not_false_eq_true, Nat.reduceAdd, Int.reduceAdd, Int.reduceNeg, Int.reduceLE, Int.reduceSub, Int.reduceToNat, if_true, if_false, ite_true, ite_false, Bool.or_false, Bool.false_or, Bool.or_true, Bool.true_or, Nat.reduceBEq, Nat.reduceEqDiff, reduceIte, eq_self, false_and, and_false, true_and, and_true, Bool.false_eq_true, Bool.true_eq_false, reduceCtorEq, dX8_both_0, am_dx_aload_n_0, am_ld_0, dX8_both_1, am_dx_iconst_0, dX8_both_2, am_dx_invokevirtual, dX8_both_5, dX8_both_6, am_dx_iconst_1, dX8_both_7, dX8_both_10, dX8_both_11, am_dx_istore_n_1, am_set_1, am_set_0, am_st1_1, am_lnl_1, dX8_both_12, dX8_both_13, am_dx_istore_n_2, am_set_2, am_ld_1, am_st1_2, am_lnl_2, dX8_both_14, am_dx_iload_n_2, am_ld_2, dX8_both_15, dX8_both_16, am_dx_getfield, dX8_both_19, dX8_both_22, am_dx_if_icmp_ge, dX8_both_25, dX8_both_26, dX8_both_27, dX8_both_30, am_dx_ifCond_eq, dX8_both_33, am_dx_iload_n_1, dX8_both_34, dX8_both_35, dX8_both_36, am_dx_ishl, dX8_both_37, am_dx_ior, dX8_both_38, dX8_both_39, am_dx_iinc_2_1, dX8_both_42, am_dx_goto, dX8_both_45, dX8_both_46, am_dx_ireturn, lX8_both_169, am_cV_1, am_l0, am_l1, am_l2, am_l3, am_l4, lX8_both_14, am_fr_8_0, lX8_both_215, am_fr_1_3, am_fw_1_3, lX8_both_221, am_kd_0, am_gr_0_0, am_kd_1, e1, q6, d1, t, nI_1p]) 0 rfl
  subst i1
  refine r1 _ ?_
  have q6 := nIle' (a := n) (b := n) (by omega) (by omega)
  refine am_Big_end (sp := []) 40 ?_
  simp only [am_go_s, am_bd_none, am_bd_rt, am_bd_nx, am_bd_ite, am_1i_c, am_2i_c, am_1l_c, am_2l_c, am_li_c, am_1r_c, am_ri_c, am_rii_c, am_ril_c, am_vi_c, am_vl_c, am_vr_c, am_ob_c, am_ob_n, am_ob_ite, am_kk_i, am_kk_r, am_kk_l, am_kk_n, am_ui_1, am_ui_2, am_ul_1, am_ul_2, am_b0, am_tl_s, am_tl_n, am_jp, am_ic, am_ct_n, am_ct_c, am_10, am_01, am_b1, am_nn, or_true, or_false, true_or, false_or, Int32.reduceLT, Int32.reduceLE, Int32.reduceAdd, Int32.reduceSub, not_true_eq_false, not_false_eq_true, Nat.reduceAdd, Int.reduceAdd, Int.reduceNeg, Int.reduceLE, Int.reduceSub, Int.reduceToNat, if_true, if_false, ite_true, ite_false, Bool.or_false, Bool.false_or, Bool.or_true, Bool.true_or, Nat.reduceBEq, Nat.reduceEqDiff, reduceIte, eq_self, false_and, and_false, true_and, and_true, Bool.false_eq_true, Bool.true_eq_false, reduceCtorEq, dX8_both_0, am_dx_aload_n_0, am_ld_0, dX8_both_1, am_dx_iconst_0, dX8_both_2, am_dx_invokevirtual, dX8_both_5, dX8_both_6, am_dx_iconst_1, dX8_both_7, dX8_both_10, dX8_both_11, am_dx_istore_n_1, am_set_1, am_set_0, am_st1_1, am_lnl_1, dX8_both_12, dX8_both_13, am_dx_istore_n_2, am_set_2, am_ld_1, am_st1_2, am_lnl_2, dX8_both_14, am_dx_iload_n_2, am_ld_2, dX8_both_15, dX8_both_16, am_dx_getfield, dX8_both_19, dX8_both_22, am_dx_if_icmp_ge, dX8_both_25, dX8_both_26, dX8_both_27, dX8_both_30, am_dx_ifCond_eq, dX8_both_33, am_dx_iload_n_1, dX8_both_34, dX8_both_35, dX8_both_36, am_dx_ishl, dX8_both_37, am_dx_ior, dX8_both_38, dX8_both_39, am_dx_iinc_2_1, dX8_both_42, am_dx_goto, dX8_both_45, dX8_both_46, am_dx_ireturn, lX8_both_169, am_cV_1, am_l0, am_l1, am_l2, am_l3, am_l4, lX8_both_14, am_fr_8_0, lX8_both_215, am_fr_1_3, am_fw_1_3, lX8_both_221, am_kd_0, am_gr_0_0, am_kd_1, e1, q6, d1]
theorem m8p (s : Nat) : (8 : Int32) + nI s = nI (8 + s) := by
  have := am_8 (g := 1) (j := s)
  have e : (8 : Int32) * nI 1 = 8 := by decide
  rw [e] at this
  exact this
theorem m16p (s : Nat) : (16 : Int32) + nI s = nI (16 + s) := by
  have := am_8 (g := 2) (j := s)
  have e : (8 : Int32) * nI 2 = 16 := by decide
  rw [e] at this
  exact this
