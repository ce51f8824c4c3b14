/-! the movers in order; the class's findMovers -/
noncomputable def mg (M0 M1 : pm_M) (m0 m : Nat) (D : Nat → Int64) (T : Int64) (V : mv_V) : mv_V := match nb (mF M0 M1 m V) D T (m * m0) with
  | none => V
  | some x => V ++ [(x / m, x % m, D x)]
noncomputable def mvi (M0 M1 : pm_M) (m0 m : Nat) (D : Nat → Int64) (T : Int64) : Nat → mv_V
  | 0 => []
  | r + 1 => mg M0 M1 m0 m D T (mvi M0 M1 m0 m D T r)
theorem mvi_s {M0 M1 : pm_M} {m0 m : Nat} {D : Nat → Int64} {T : Int64} {r x : Nat} (e : nb (mF M0 M1 m (mvi M0 M1 m0 m D T r)) D T (m * m0) = some x) : mvi M0 M1 m0 m D T (r + 1) = mvi M0 M1 m0 m D T r ++ [(x / m, x % m, D x)] := by rw [mvi, mg, e]
theorem mvi_n {M0 M1 : pm_M} {m0 m : Nat} {D : Nat → Int64} {T : Int64} {r : Nat} (e : nb (mF M0 M1 m (mvi M0 M1 m0 m D T r)) D T (m * m0) = none) (d : Nat) : mvi M0 M1 m0 m D T (r + d) = mvi M0 M1 m0 m D T r := by
  induction d with
  | zero => rfl
  | succ d ih => rw [show r + (d + 1) = r + d + 1 from rfl, mvi, mg, ih, e]
noncomputable def mN (V : mv_V) (i : Nat) : Option Nat := @ite _ (∃ v, v ∈ V ∧ v.1 = i) (Classical.propDecidable _) (some 0) none
theorem mN_p {V : mv_V} {i : Nat} (h : ∃ v, v ∈ V ∧ v.1 = i) : mN V i = some 0 := by unfold mN; rw [if_pos h]
theorem mN_n {V : mv_V} {i : Nat} (h : ¬ ∃ v, v ∈ V ∧ v.1 = i) : mN V i = none := by unfold mN; rw [if_neg h]
theorem mN_a {V : mv_V} {v : Nat × Nat × Int64} : mN (V ++ [v]) = pm_s (mN V) (8 * v.1) := by
  funext s
  unfold pm_s
  rw [show 8 * v.1 / 8 = v.1 by omega, show 8 * v.1 % 8 = 0 by omega]
  by_cases e : s = v.1
  · rw [if_pos e]
    exact mN_p ⟨v, List.mem_append.mpr (Or.inr (List.mem_singleton.mpr rfl)), e.symm⟩
  · rw [if_neg e]
    by_cases c : ∃ w, w ∈ V ∧ w.1 = s
    · rw [mN_p c]
      obtain ⟨w, hw, ew⟩ := c
      exact mN_p ⟨w, List.mem_append.mpr (Or.inl hw), ew⟩
    · rw [mN_n c]
      refine mN_n (fun ⟨w, hw, ew⟩ => ?_)
      rcases List.mem_append.mp hw with hw | hw
      · exact c ⟨w, hw, ew⟩
      · rw [List.mem_singleton] at hw
        subst hw
        exact e ew.symm
theorem mN_0 (a : Nat) : pm_c (mN []) a = 0 := by
  induction a with
  | zero => rfl
  | succ a ih =>
    have : mN [] a = none := mN_n (fun ⟨v, hv, _⟩ => by simp at hv)
    rw [pm_c, ih, this]
    rfl
theorem mvi_c {M0 M1 : pm_M} {m0 m : Nat} (hm0 : m0 ≤ 8) {D : Nat → Int64} {T : Int64} (r : Nat) : pm_c (mN (mvi M0 M1 m0 m D T r)) 8 = (mvi M0 M1 m0 m D T r).length := by
  induction r with
  | zero => rw [mvi, mN_0]; rfl
  | succ r ih =>
    cases e : nb (mF M0 M1 m (mvi M0 M1 m0 m D T r)) D T (m * m0) with
    | none => rw [mvi_n e 1]; exact ih
    | some x =>
      obtain ⟨h1, h2, -⟩ := nb_in e
      have l1 : x / m < m0 := Nat.div_lt_of_lt_mul h1
      have hn : mN (mvi M0 M1 m0 m D T r) (x / m) = none := mN_n (fun c => h2.1 (Or.inr c))
      rw [mvi_s e, mN_a, List.length_append, List.length_singleton, pm_c_s _ _ _ (by rw [show 8 * (x / m) / 8 = x / m by omega]; exact hn), if_pos (by omega), ih]
theorem mvi_8 {M0 M1 : pm_M} {m0 m : Nat} (hm0 : m0 ≤ 8) {D : Nat → Int64} {T : Int64} {r : Nat} (h : (mvi M0 M1 m0 m D T r).length = 8) : nb (mF M0 M1 m (mvi M0 M1 m0 m D T r)) D T (m * m0) = none := by
  refine nb_no (fun y hy c => ?_)
  have l1 : y / m < m0 := Nat.div_lt_of_lt_mul hy
  have hn : mN (mvi M0 M1 m0 m D T r) (y / m) = none := mN_n (fun d => c.1 (Or.inr d))
  have := pm_c_lt (mN (mvi M0 M1 m0 m D T r)) 8 (s := y / m) (by omega) hn
  rw [mvi_c hm0, h] at this
  omega
/-- what the class's calls read of the movers -/
def mz_has (h : am_H) (V : mv_V) : Prop := h.1 69 3 = nI V.length ∧ ∀ i v, V[i]? = some v → h.1 70 i = nI v.1 ∧ h.1 71 i = nI v.2.1 ∧ h.1 72 i = v.2.2.toInt32
theorem f_lp (m0 m : Nat) (hm0 : m0 ≤ 8) (hm : m ≤ 8) (M0 M1 : pm_M) (Q : List ft_q) (X Y U W : Nat → Int32) (D : Nat → Int64) (eD : mD Q X Y U W m = D) (R : Int32) (T : Int64) (eT : R.toInt64 + 1 = T) (d : Nat) : ∀ r, r + d = 8 → (mvi M0 M1 m0 m D T r).length = r → ∀ h : am_H, h.1 5 3 = nI m0 → h.1 9 3 = nI m → h.1 31 2 = R → h.1 10 = U → h.1 11 = W → ml_has h Q X Y m0 → mc_has h M0 M1 (mvi M0 M1 m0 m D T r) → ∃ k, am_Big GX8_findMovers cX8_findMovers (47, [some (.ref 0), some (.int (nI r))], [], h) (none, k) ∧ mz_has k (mvi M0 M1 m0 m D T 8) ∧ mo_fr h k := by
  have x0 := ix2.1
  have x1 := ix2.2
  have x2 : ∀ z : am_S, am_ix 2 4 z = z := fun z => am_ix_c (j := 2) (by omega) (by omega)
  have k69 : am_kd 69 = (3, 8) := rfl
  have k5 : am_kd 5 = (1, 4) := rfl
  have r4 : am_gr 21 0 = 5 := rfl
  have r5 : am_gr 21 1 = 9 := rfl
  induction d with
  | zero =>
    intro r hr hlen h e5 e9 e31 e10 e11 hl hc
    have : r = 8 := by omega
    subst this
    refine ⟨h, am_Big_end (sp := []) 40 ?_, ⟨hc.1, hc.2.1⟩, fun a _ => ⟨rfl, rfl⟩⟩
    have q6 : 8 ≤ nI 8 := nIle' (a := 8) (b := 8) (by omega) (by omega)
    simp only [am_go_s, am_bd_none, am_bd_rt, am_bd_nx, am_bd_ite, am_1i_c, am_2i_c, am_1l_c, am_2l_c, am_li_c, am_1r_c, am_ri_c, am_rii_c, am_ril_c, am_vi_c, am_vl_c, am_vr_c, am_ob_c, am_ob_n, am_ob_ite, am_kk_i, am_kk_r, am_kk_l, am_kk_n, am_ui_1, am_ui_2, am_ul_1, am_ul_2, am_b0, am_tl_s, am_tl_n, am_jp, am_ic, am_ct_n, am_ct_c, am_10, am_01, am_b1, am_nn, or_true, or_false, true_or, false_or, Int32.reduceLT, Int32.reduceLE, Int32.reduceAdd, Int32.reduceSub, not_true_eq_false, not_false_eq_true, Nat.reduceAdd, Int.reduceAdd, Int.reduceNeg, Int.reduceLE, Int.reduceSub, Int.reduceToNat, if_true, if_false, ite_true, ite_false, Bool.or_false, Bool.false_or, Bool.or_true, Bool.true_or, Nat.reduceBEq, Nat.reduceEqDiff, reduceIte, eq_self, false_and, and_false, true_and, and_true, Bool.false_eq_true, Bool.true_eq_false, reduceCtorEq, dX8_findMovers_0, am_dx_aload_n_0, am_ld_0, dX8_findMovers_1, am_dx_getfield, dX8_findMovers_4, am_dx_iconst_0, dX8_findMovers_5, am_dx_putfield, dX8_findMovers_8, dX8_findMovers_9, am_dx_invokevirtual, dX8_findMovers_12, am_dx_ifCond_ne, dX8_findMovers_15, am_dx_return, dX8_findMovers_16, dX8_findMovers_17, dX8_findMovers_20, dX8_findMovers_21, dX8_findMovers_24, dX8_findMovers_25, am_dx_aaload, dX8_findMovers_26, dX8_findMovers_27, dX8_findMovers_30, dX8_findMovers_31, dX8_findMovers_34, dX8_findMovers_35, dX8_findMovers_36, dX8_findMovers_37, dX8_findMovers_40, am_dx_iconst_1, dX8_findMovers_41, dX8_findMovers_42, dX8_findMovers_45, dX8_findMovers_46, am_dx_istore_n_1, am_set_1, am_set_0, am_st1_1, am_lnl_1, dX8_findMovers_47, am_dx_iload_n_1, am_ld_1, dX8_findMovers_48, am_dx_bipush_8, dX8_findMovers_50, am_dx_if_icmp_ge, dX8_findMovers_53, dX8_findMovers_54, dX8_findMovers_57, dX8_findMovers_58, dX8_findMovers_61, dX8_findMovers_62, dX8_findMovers_63, dX8_findMovers_66, dX8_findMovers_67, dX8_findMovers_70, dX8_findMovers_71, dX8_findMovers_72, dX8_findMovers_73, dX8_findMovers_76, am_dx_iconst_2, dX8_findMovers_77, am_dx_iaload, dX8_findMovers_78, dX8_findMovers_81, dX8_findMovers_84, am_dx_goto, dX8_findMovers_87, am_dx_iinc_1_1, dX8_findMovers_90, dX8_findMovers_93, lX8_findMovers_72, am_fr_8_10, lX8_findMovers_231, am_fr_3_3, am_fw_3_3, lX8_findMovers_224, am_cV_0, am_l0, am_l1, am_l2, am_l3, am_l4, lX8_findMovers_18, am_fr_8_1, lX8_findMovers_65, am_fr_8_9, lX8_findMovers_58, am_fr_8_8, lX8_findMovers_300, am_cV_4, lX8_findMovers_215, am_fr_1_3, am_fw_1_3, lX8_findMovers_37, am_fr_8_5, lX8_findMovers_303, am_cV_3, am_kd_0, am_gr_0_10, am_kd_69, am_gr_0_1, am_kd_21, am_gr_0_9, am_kd_64, am_gr_0_8, am_kd_63, am_gr_0_5, am_kd_31, q6]
  | succ d ih =>
    intro r hr hlen h e5 e9 e31 e10 e11 hl hc
    have q6 : ¬ 8 ≤ nI r := nIlt' (a := r) (b := 8) (by omega) (by omega)
    obtain ⟨t1, t2⟩ := m_X3_addNearest h m0 m hm0 hm e9 M0 M1 _ hc (by omega) Q X Y hl D (by rw [e10, e11]; exact eD) _ rfl R T eT
    cases e : nb (mF M0 M1 m (mvi M0 M1 m0 m D T r)) D T (m * m0) with
    | none =>
      have t := t1 e
      have es := mvi_n e (d + 1)
      rw [hr] at es
      refine ⟨h, am_Big_end (sp := []) 60 ?_, by rw [es]; exact ⟨hc.1, hc.2.1⟩, fun a _ => ⟨rfl, rfl⟩⟩
      simp only [am_go_s, am_bd_none, am_bd_rt, am_bd_nx, am_bd_ite, am_1i_c, am_2i_c, am_1l_c, am_2l_c, am_li_c, am_1r_c, am_ri_c, am_rii_c, am_ril_c, am_vi_c, am_vl_c, am_vr_c, am_ob_c, am_ob_n, am_ob_ite, am_kk_i, am_kk_r, am_kk_l, am_kk_n, am_ui_1, am_ui_2, am_ul_1, am_ul_2, am_b0, am_tl_s, am_tl_n, am_jp, am_ic, am_ct_n, am_ct_c, am_10, am_01, am_b1, am_nn, or_true, or_false, true_or, false_or, Int32.reduceLT, Int32.reduceLE, Int32.reduceAdd, Int32.reduceSub, not_true_eq_false, not_false_eq_true, Nat.reduceAdd, Int.reduceAdd, Int.reduceNeg, Int.reduceLE, Int.reduceSub, Int.reduceToNat, if_true, if_false, ite_true, ite_false, Bool.or_false, Bool.false_or, Bool.or_true, Bool.true_or, Nat.reduceBEq, Nat.reduceEqDiff, reduceIte, eq_self, false_and, and_false, true_and, and_true, Bool.false_eq_true, Bool.true_eq_false, reduceCtorEq, dX8_findMovers_0, am_dx_aload_n_0, am_ld_0, dX8_findMovers_1, am_dx_getfield, dX8_findMovers_4, am_dx_iconst_0, dX8_findMovers_5, am_dx_putfield, dX8_findMovers_8, dX8_findMovers_9, am_dx_invokevirtual, dX8_findMovers_12, am_dx_ifCond_ne, dX8_findMovers_15, am_dx_return, dX8_findMovers_16, dX8_findMovers_17, dX8_findMovers_20, dX8_findMovers_21, dX8_findMovers_24, dX8_findMovers_25, am_dx_aaload, dX8_findMovers_26, dX8_findMovers_27, dX8_findMovers_30, dX8_findMovers_31, dX8_findMovers_34, dX8_findMovers_35, dX8_findMovers_36, dX8_findMovers_37, dX8_findMovers_40, am_dx_iconst_1, dX8_findMovers_41, dX8_findMovers_42, dX8_findMovers_45, dX8_findMovers_46, am_dx_istore_n_1, am_set_1, am_set_0, am_st1_1, am_lnl_1, dX8_findMovers_47, am_dx_iload_n_1, am_ld_1, dX8_findMovers_48, am_dx_bipush_8, dX8_findMovers_50, am_dx_if_icmp_ge, dX8_findMovers_53, dX8_findMovers_54, dX8_findMovers_57, dX8_findMovers_58, dX8_findMovers_61, dX8_findMovers_62, dX8_findMovers_63, dX8_findMovers_66, dX8_findMovers_67, dX8_findMovers_70, dX8_findMovers_71, dX8_findMovers_72, dX8_findMovers_73, dX8_findMovers_76, am_dx_iconst_2, dX8_findMovers_77, am_dx_iaload, dX8_findMovers_78, dX8_findMovers_81, dX8_findMovers_84, am_dx_goto, dX8_findMovers_87, am_dx_iinc_1_1, dX8_findMovers_90, dX8_findMovers_93, lX8_findMovers_72, am_fr_8_10, lX8_findMovers_231, am_fr_3_3, am_fw_3_3, lX8_findMovers_224, am_cV_0, am_l0, am_l1, am_l2, am_l3, am_l4, lX8_findMovers_18, am_fr_8_1, lX8_findMovers_65, am_fr_8_9, lX8_findMovers_58, am_fr_8_8, lX8_findMovers_300, am_cV_4, lX8_findMovers_215, am_fr_1_3, am_fw_1_3, lX8_findMovers_37, am_fr_8_5, lX8_findMovers_303, am_cV_3, am_kd_0, am_gr_0_10, am_kd_69, am_gr_0_1, am_kd_21, am_gr_0_9, am_kd_64, am_gr_0_8, am_kd_63, am_gr_0_5, am_kd_31, q6, x0, x1, x2, am_c0, am_c1, am_c2, r4, r5, k5, e5, e31, t]
    | some x =>
      obtain ⟨k, k1, k2, k3, k4⟩ := t2 x e (by omega)
      have es := mvi_s e
      rw [← es] at k2
      obtain ⟨k5', y1, y2, y3⟩ := ih (r + 1) (by omega) (by rw [es, List.length_append, hlen]; rfl) k (by rw [k4 5 (by omega)]; exact e5) (by rw [k4 9 (by omega)]; exact e9) (by rw [k4 31 (by omega)]; exact e31) (by rw [k4 10 (by omega)]; exact e10) (by rw [k4 11 (by omega)]; exact e11) (by unfold ml_has; rw [k3]; exact hl) k2
      refine ⟨k5', ?_, y2, mo_tr (fun a ha => ⟨k4 a ha, by rw [k3]⟩) y3⟩
      have re : am_Re GX8_findMovers cX8_findMovers (47, [some (.ref 0), some (.int (nI r))], [], h) (47, [some (.ref 0), some (.int (nI (r + 1)))], [], k) := by
        refine am_Re_go (sp := [47]) 60 ?_
        simp only [am_go_s, am_bd_none, am_bd_rt, am_bd_nx, am_bd_ite, am_1i_c, am_2i_c, am_1l_c, am_2l_c, am_li_c, am_1r_c, am_ri_c, am_rii_c, am_ril_c, am_vi_c, am_vl_c, am_vr_c, am_ob_c, am_ob_n, am_ob_ite, am_kk_i, am_kk_r, am_kk_l, am_kk_n, am_ui_1, am_ui_2, am_ul_1, am_ul_2, am_b0, am_tl_s, am_tl_n, am_jp, am_ic, am_ct_n, am_ct_c, am_10, am_01, am_b1, am_nn, or_true, or_false, true_or, false_or, Int32.reduceLT, Int32.reduceLE, Int32.reduceAdd, Int32.reduceSub, not_true_eq_false, not_false_eq_true, Nat.reduceAdd, Int.reduceAdd, Int.reduceNeg, Int.reduceLE, Int.reduceSub, Int.reduceToNat, if_true, if_false, ite_true, ite_false, Bool.or_false, Bool.false_or, Bool.or_true, Bool.true_or, Nat.reduceBEq, Nat.reduceEqDiff, reduceIte, eq_self, false_and, and_false, true_and, and_true, Bool.false_eq_true, Bool.true_eq_false, reduceCtorEq, dX8_findMovers_0, am_dx_aload_n_0, am_ld_0, dX8_findMovers_1, am_dx_getfield, dX8_findMovers_4, am_dx_iconst_0, dX8_findMovers_5, am_dx_putfield, dX8_findMovers_8, dX8_findMovers_9, am_dx_invokevirtual, dX8_findMovers_12, am_dx_ifCond_ne, dX8_findMovers_15, am_dx_return, dX8_findMovers_16, dX8_findMovers_17, dX8_findMovers_20, dX8_findMovers_21, dX8_findMovers_24, dX8_findMovers_25, am_dx_aaload, dX8_findMovers_26, dX8_findMovers_27, dX8_findMovers_30, dX8_findMovers_31, dX8_findMovers_34, dX8_findMovers_35, dX8_findMovers_36, dX8_findMovers_37, dX8_findMovers_40, am_dx_iconst_1, dX8_findMovers_41, dX8_findMovers_42, dX8_findMovers_45, dX8_findMovers_46, am_dx_istore_n_1, am_set_1, am_set_0, am_st1_1, am_lnl_1, dX8_findMovers_47, am_dx_iload_n_1, am_ld_1, dX8_findMovers_48, am_dx_bipush_8, dX8_findMovers_50, am_dx_if_icmp_ge, dX8_findMovers_53, dX8_findMovers_54, dX8_findMovers_57, dX8_findMovers_58, dX8_findMovers_61, dX8_findMovers_62, dX8_findMovers_63, dX8_findMovers_66, dX8_findMovers_67, dX8_findMovers_70, dX8_findMovers_71, dX8_findMovers_72, dX8_findMovers_73, dX8_findMovers_76, am_dx_iconst_2, dX8_findMovers_77, am_dx_iaload, dX8_findMovers_78, dX8_findMovers_81, dX8_findMovers_84, am_dx_goto, dX8_findMovers_87, am_dx_iinc_1_1, dX8_findMovers_90, dX8_findMovers_93, lX8_findMovers_72, am_fr_8_10, lX8_findMovers_231, am_fr_3_3, am_fw_3_3, lX8_findMovers_224, am_cV_0, am_l0, am_l1, am_l2, am_l3, am_l4, lX8_findMovers_18, am_fr_8_1, lX8_findMovers_65, am_fr_8_9, lX8_findMovers_58, am_fr_8_8, lX8_findMovers_300, am_cV_4, lX8_findMovers_215, am_fr_1_3, am_fw_1_3, lX8_findMovers_37, am_fr_8_5, lX8_findMovers_303, am_cV_3, am_kd_0, am_gr_0_10, am_kd_69, am_gr_0_1, am_kd_21, am_gr_0_9, am_kd_64, am_gr_0_8, am_kd_63, am_gr_0_5, am_kd_31, q6, x0, x1, x2, am_c0, am_c1, am_c2, r4, r5, k5, e5, e31, k1, nI_1p]
      exact re _ y1
theorem m_X8_findMovers (n m0 m : Nat) (hn : n ≤ 8) (hm0 : m0 ≤ 8) (hm : m ≤ 8) (M0 M1 : pm_M) (hM0 : ∀ s k, M0 s = some k → k < 8) (hM1 : ∀ s k, M1 s = some k → k < 8) (h : am_H) (e1 : h.1 1 3 = nI n) (e5 : h.1 5 3 = nI m0) (e9 : h.1 9 3 = nI m) (g0 : pg_has h 0 M0) (g1 : pg_has h 1 M1) (Q : List ft_q) (eQ : (pb M0 M1 n).map (bq h) = Q) (hp : 2 ≤ Q.length → 0 < (ft_d Q).1 ∧ fo Q) (D : Nat → Int64) (eD : mD Q (h.1 6) (h.1 7) (h.1 10) (h.1 11) m = D) (T : Int64) (eT : (h.1 31 2).toInt64 + 1 = T) : ∃ k, fX8_findMovers [.ref 0] h = some (none, k) ∧ (2 ≤ Q.length → mz_has k (mvi M0 M1 m0 m D T 8)) ∧ (¬ 2 ≤ Q.length → mz_has k []) ∧ cs_fr h k := by
  have f1 : ∀ a, a ≠ 69 → (am_ui h 69 3 0).1 a = h.1 a := fun a ha => by
    funext b
    ((try simp only [am_ui_1, am_ui_2, true_and, and_true, and_self, if_true, reduceIte]); (repeat first | rw [if_neg (by omega)] | rw [if_pos (by omega)]); try rfl)
  obtain ⟨h2, u1, u2, u3, u4, u5⟩ := m_X8_fitPlates n hn M0 M1 hM0 hM1 (am_ui h 69 3 0) (by rw [f1 1 (by omega)]; exact e1) (pg_cg (f1 _ (by omega)) (f1 _ (by omega)) g0) (pg_cg (f1 _ (by omega)) (f1 _ (by omega)) g1) Q (by rw [bq_cg (h := h) (fun a ha => f1 a (by omega))]; exact eQ)
  have f2 : ∀ a, a ≠ 69 → ¬ (64 ≤ a ∧ a ≤ 68) → h2.1 a = h.1 a ∧ h2.2 a = h.2 a := fun a ha hb => ⟨by rw [(u5 a hb).1, f1 a ha], (u5 a hb).2⟩
  by_cases c2 : 2 ≤ Q.length
  · obtain ⟨p1, p2⟩ := hp c2
    have u := u1 ⟨c2, p1⟩
    obtain ⟨h3, s1, s2, s3, s4⟩ := m_X3_start h2 m0 hm0 Q u3 u4 p2 (by rw [(f2 5 (by omega) (by omega)).1]; exact e5) M0 M1 (pg_cg (f2 _ (by omega) (by omega)).1 (f2 _ (by omega) (by omega)).1 g0) (pg_cg (f2 _ (by omega) (by omega)).1 (f2 _ (by omega) (by omega)).1 g1)
    have f3 : ∀ a, ¬ (64 ≤ a ∧ a ≤ 76) → h3.1 a = h.1 a ∧ h3.2 a = h.2 a := fun a ha => ⟨by rw [(s4 a (by omega)).1, (f2 a (by omega) (by omega)).1], by rw [(s4 a (by omega)).2, (f2 a (by omega) (by omega)).2]⟩
    rw [(f2 6 (by omega) (by omega)).1, (f2 7 (by omega) (by omega)).1] at s3
    obtain ⟨h4, y1, y2, y3⟩ := f_lp m0 m hm0 hm M0 M1 Q (h.1 6) (h.1 7) (h.1 10) (h.1 11) D eD (h.1 31 2) T eT 8 0 (by omega) rfl h3 (by rw [(f3 5 (by omega)).1]; exact e5) (by rw [(f3 9 (by omega)).1]; exact e9) (by rw [(f3 31 (by omega)).1]) (f3 10 (by omega)).1 (f3 11 (by omega)).1 s3 s2
    refine ⟨h4, am_run2 [some (.ref 0), none] rfl rfl rfl ?_, fun _ => y2, fun c => absurd c2 c, fun a ha => ⟨by rw [(y3 a (by omega)).1, (f3 a (by omega)).1], by rw [(y3 a (by omega)).2, (f3 a (by omega)).2]⟩⟩
    have x0 := ix2.1
    have x1 := ix2.2
    have k69 : am_kd 69 = (3, 8) := rfl
    have r4 : am_gr 21 0 = 5 := rfl
    have r6 : am_gr 63 0 = 57 := rfl
    have r7 : am_gr 63 1 = 60 := rfl
    have re : am_Re GX8_findMovers cX8_findMovers (0, [some (.ref 0), none], [], h) (47, [some (.ref 0), some (.int (nI 0))], [], h3) := by
      refine am_Re_go (sp := [47]) 60 ?_
      simp only [am_go_s, am_bd_none, am_bd_rt, am_bd_nx, am_bd_ite, am_1i_c, am_2i_c, am_1l_c, am_2l_c, am_li_c, am_1r_c, am_ri_c, am_rii_c, am_ril_c, am_vi_c, am_vl_c, am_vr_c, am_ob_c, am_ob_n, am_ob_ite, am_kk_i, am_kk_r, am_kk_l, am_kk_n, am_ui_1, am_ui_2, am_ul_1, am_ul_2, am_b0, am_tl_s, am_tl_n, am_jp, am_ic, am_ct_n, am_ct_c, am_10, am_01, am_b1, am_nn, or_true, or_false, true_or, false_or, Int32.reduceLT, Int32.reduceLE, Int32.reduceAdd, Int32.reduceSub, not_true_eq_false, not_false_eq_true, Nat.reduceAdd, Int.reduceAdd, Int.reduceNeg, Int.reduceLE, Int.reduceSub, Int.reduceToNat, if_true, if_false, ite_true, ite_false, Bool.or_false, Bool.false_or, Bool.or_true, Bool.true_or, Nat.reduceBEq, Nat.reduceEqDiff, reduceIte, eq_self, false_and, and_false, true_and, and_true, Bool.false_eq_true, Bool.true_eq_false, reduceCtorEq, dX8_findMovers_0, am_dx_aload_n_0, am_ld_0, dX8_findMovers_1, am_dx_getfield, dX8_findMovers_4, am_dx_iconst_0, dX8_findMovers_5, am_dx_putfield, dX8_findMovers_8, dX8_findMovers_9, am_dx_invokevirtual, dX8_findMovers_12, am_dx_ifCond_ne, dX8_findMovers_15, am_dx_return, dX8_findMovers_16, dX8_findMovers_17, dX8_findMovers_20, dX8_findMovers_21, dX8_findMovers_24, dX8_findMovers_25, am_dx_aaload, dX8_findMovers_26, dX8_findMovers_27, dX8_findMovers_30, dX8_findMovers_31, dX8_findMovers_34, dX8_findMovers_35, dX8_findMovers_36, dX8_findMovers_37, dX8_findMovers_40, am_dx_iconst_1, dX8_findMovers_41, dX8_findMovers_42, dX8_findMovers_45, dX8_findMovers_46, am_dx_istore_n_1, am_set_1, am_set_0, am_st1_1, am_lnl_1, dX8_findMovers_47, am_dx_iload_n_1, am_ld_1, dX8_findMovers_48, am_dx_bipush_8, dX8_findMovers_50, am_dx_if_icmp_ge, dX8_findMovers_53, dX8_findMovers_54, dX8_findMovers_57, dX8_findMovers_58, dX8_findMovers_61, dX8_findMovers_62, dX8_findMovers_63, dX8_findMovers_66, dX8_findMovers_67, dX8_findMovers_70, dX8_findMovers_71, dX8_findMovers_72, dX8_findMovers_73, dX8_findMovers_76, am_dx_iconst_2, dX8_findMovers_77, am_dx_iaload, dX8_findMovers_78, dX8_findMovers_81, dX8_findMovers_84, am_dx_goto, dX8_findMovers_87, am_dx_iinc_1_1, dX8_findMovers_90, dX8_findMovers_93, lX8_findMovers_72, am_fr_8_10, lX8_findMovers_231, am_fr_3_3, am_fw_3_3, lX8_findMovers_224, am_cV_0, am_l0, am_l1, am_l2, am_l3, am_l4, lX8_findMovers_18, am_fr_8_1, lX8_findMovers_65, am_fr_8_9, lX8_findMovers_58, am_fr_8_8, lX8_findMovers_300, am_cV_4, lX8_findMovers_215, am_fr_1_3, am_fw_1_3, lX8_findMovers_37, am_fr_8_5, lX8_findMovers_303, am_cV_3, am_kd_0, am_gr_0_10, am_kd_69, am_gr_0_1, am_kd_21, am_gr_0_9, am_kd_64, am_gr_0_8, am_kd_63, am_gr_0_5, am_kd_31, k69, u, x0, x1, am_c0, am_c1, r4, r6, r7, s1, nI_0]
    exact re _ y1
  · have u := u2 (fun c => c2 c.1)
    refine ⟨h2, am_run2 [some (.ref 0), none] rfl rfl rfl ?_, fun c => absurd c c2, fun _ => ⟨?_, fun i v e => by simp at e⟩, fun a ha => f2 a (by omega) (by omega)⟩
    · have k69 : am_kd 69 = (3, 8) := rfl
      refine am_Big_end (sp := []) 40 ?_
      simp only [am_go_s, am_bd_none, am_bd_rt, am_bd_nx, am_bd_ite, am_1i_c, am_2i_c, am_1l_c, am_2l_c, am_li_c, am_1r_c, am_ri_c, am_rii_c, am_ril_c, am_vi_c, am_vl_c, am_vr_c, am_ob_c, am_ob_n, am_ob_ite, am_kk_i, am_kk_r, am_kk_l, am_kk_n, am_ui_1, am_ui_2, am_ul_1, am_ul_2, am_b0, am_tl_s, am_tl_n, am_jp, am_ic, am_ct_n, am_ct_c, am_10, am_01, am_b1, am_nn, or_true, or_false, true_or, false_or, Int32.reduceLT, Int32.reduceLE, Int32.reduceAdd, Int32.reduceSub, not_true_eq_false, not_false_eq_true, Nat.reduceAdd, Int.reduceAdd, Int.reduceNeg, Int.reduceLE, Int.reduceSub, Int.reduceToNat, if_true, if_false, ite_true, ite_false, Bool.or_false, Bool.false_or, Bool.or_true, Bool.true_or, Nat.reduceBEq, Nat.reduceEqDiff, reduceIte, eq_self, false_and, and_false, true_and, and_true, Bool.false_eq_true, Bool.true_eq_false, reduceCtorEq, dX8_findMovers_0, am_dx_aload_n_0, am_ld_0, dX8_findMovers_1, am_dx_getfield, dX8_findMovers_4, am_dx_iconst_0, dX8_findMovers_5, am_dx_putfield, dX8_findMovers_8, dX8_findMovers_9, am_dx_invokevirtual, dX8_findMovers_12, am_dx_ifCond_ne, dX8_findMovers_15, am_dx_return, dX8_findMovers_16, dX8_findMovers_17, dX8_findMovers_20, dX8_findMovers_21, dX8_findMovers_24, dX8_findMovers_25, am_dx_aaload, dX8_findMovers_26, dX8_findMovers_27, dX8_findMovers_30, dX8_findMovers_31, dX8_findMovers_34, dX8_findMovers_35, dX8_findMovers_36, dX8_findMovers_37, dX8_findMovers_40, am_dx_iconst_1, dX8_findMovers_41, dX8_findMovers_42, dX8_findMovers_45, dX8_findMovers_46, am_dx_istore_n_1, am_set_1, am_set_0, am_st1_1, am_lnl_1, dX8_findMovers_47, am_dx_iload_n_1, am_ld_1, dX8_findMovers_48, am_dx_bipush_8, dX8_findMovers_50, am_dx_if_icmp_ge, dX8_findMovers_53, dX8_findMovers_54, dX8_findMovers_57, dX8_findMovers_58, dX8_findMovers_61, dX8_findMovers_62, dX8_findMovers_63, dX8_findMovers_66, dX8_findMovers_67, dX8_findMovers_70, dX8_findMovers_71, dX8_findMovers_72, dX8_findMovers_73, dX8_findMovers_76, am_dx_iconst_2, dX8_findMovers_77, am_dx_iaload, dX8_findMovers_78, dX8_findMovers_81, dX8_findMovers_84, am_dx_goto, dX8_findMovers_87, am_dx_iinc_1_1, dX8_findMovers_90, dX8_findMovers_93, lX8_findMovers_72, am_fr_8_10, lX8_findMovers_231, am_fr_3_3, am_fw_3_3, lX8_findMovers_224, am_cV_0, am_l0, am_l1, am_l2, am_l3, am_l4, lX8_findMovers_18, am_fr_8_1, lX8_findMovers_65, am_fr_8_9, lX8_findMovers_58, am_fr_8_8, lX8_findMovers_300, am_cV_4, lX8_findMovers_215, am_fr_1_3, am_fw_1_3, lX8_findMovers_37, am_fr_8_5, lX8_findMovers_303, am_cV_3, am_kd_0, am_gr_0_10, am_kd_69, am_gr_0_1, am_kd_21, am_gr_0_9, am_kd_64, am_gr_0_8, am_kd_63, am_gr_0_5, am_kd_31, k69, u]
    · rw [(u5 69 (by omega)).1]
      show _ = nI 0
      ((try simp only [am_ui_1, am_ui_2, true_and, and_true, and_self, if_true, reduceIte]); (repeat first | rw [if_neg (by omega)] | rw [if_pos (by omega)]); try rfl)
