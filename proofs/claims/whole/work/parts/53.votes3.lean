/-! marks and corners of a triple; findVotes -/
theorem ts_mx {A B C : Int64} {i j k : Nat} (hA : 0 ≤ A.toInt ∧ A.toInt ≤ 800000000) (hB : 0 ≤ B.toInt ∧ B.toInt ≤ 800000000) (hC : 0 ≤ C.toInt ∧ C.toInt ≤ 800000000) : (0 ≤ (ts_so A B C i j k).1.1.toInt ∧ (ts_so A B C i j k).1.1.toInt ≤ (ts_so A B C i j k).2.2.1.toInt) ∧ (0 ≤ (ts_so A B C i j k).2.1.1.toInt ∧ (ts_so A B C i j k).2.1.1.toInt ≤ (ts_so A B C i j k).2.2.1.toInt) ∧ (ts_so A B C i j k).2.2.1.toInt ≤ 800000000 := by
  unfold ts_so ts_01 ts_12
  simp only [Int64.lt_iff_toInt_lt]
  by_cases h1 : B.toInt < A.toInt
  · simp only [h1, if_true]
    by_cases h2 : C.toInt < A.toInt
    · simp only [h2, if_true]
      by_cases h3 : C.toInt < B.toInt
      · simp only [h3, if_true]; omega
      · simp only [h3, if_false]; omega
    · simp only [h2, if_false]
      simp only [h1, if_false, show ¬ A.toInt < B.toInt by omega]; omega
  · simp only [h1, if_false]
    by_cases h2 : C.toInt < B.toInt
    · simp only [h2, if_true]
      by_cases h3 : C.toInt < A.toInt
      · simp only [h3, if_true]; omega
      · simp only [h3, if_false]; omega
    · simp only [h2, if_false, h1]; omega
theorem ts_mk {l g : Int64} (h0 : 0 ≤ l.toInt) (h1 : l.toInt ≤ g.toInt) (h2 : g.toInt ≤ 800000000) (h3 : 0 < g.toInt) : 0 ≤ (200 * l / g).toInt32.toInt ∧ (200 * l / g).toInt32.toInt ≤ 200 := by
  have e2 : (200 : Int64).toInt = 200 := by decide
  have e1 : (200 * l).toInt = 200 * l.toInt := by rw [i64_mul' (by rw [e2]; omega) (by rw [e2]; omega), e2]
  have e3 : 0 ≤ (200 * l.toInt) / g.toInt := Int.ediv_nonneg (by omega) (by omega)
  have e4 : (200 * l.toInt) / g.toInt ≤ 200 := by
    apply Int.ediv_le_of_le_mul h3
    omega
  have e5 : (200 * l / g).toInt = (200 * l.toInt) / g.toInt := by
    rw [Int64.toInt_div, e1, Int.tdiv_eq_ediv_of_nonneg (by omega)]
    generalize (200 * l.toInt) / g.toInt = x at e3 e4
    exact i64_bm (by omega) (by omega)
  rw [Int64.toInt_toInt32, e5]
  generalize (200 * l.toInt) / g.toInt = x at e3 e4
  rw [i32_bm (by omega) (by omega)]
  omega
theorem ts_side_b {X Y : Nat → Int32} (hX : ts_b X) (hY : ts_b Y) {i j : Nat} (hi : i < 8) (hj : j < 8) : 0 ≤ (ts_side X Y i j).toInt ∧ (ts_side X Y i j).toInt ≤ 800000000 := by
  rw [ts_side_i hX hY hi hj]
  have b1 := hX i hi
  have b2 := hX j hj
  have b3 := hY i hi
  have b4 := hY j hj
  have s1 := sq_b (x := (X i).toInt - (X j).toInt) (by omega)
  have s2 := sq_b (x := (Y i).toInt - (Y j).toInt) (by omega)
  omega
theorem ts_tri_ok {X Y : Nat → Int32} (hX : ts_b X) (hY : ts_b Y) {i j k : Nat} (hi : i < 8) (hj : j < 8) (hk : k < 8) {v : ts_R} (e : ts_tri X Y i j k = some v) : vt_ok v := by
  have hc := ts_sort_c (P := fun z => z < 8) (X := X) (Y := Y) ⟨hi, hj, hk⟩
  have hm := ts_mx (i := i) (j := j) (k := k) (ts_side_b hX hY hj hk) (ts_side_b hX hY hi hk) (ts_side_b hX hY hi hj)
  have es : ts_sort X Y i j k = ts_so (ts_side X Y j k) (ts_side X Y i k) (ts_side X Y i j) i j k := rfl
  rw [← es] at hm
  by_cases hf : ts_flat X Y (ts_sort X Y i j k)
  · rw [ts_tri_n hf] at e
    exact absurd e (by simp)
  · rw [ts_tri_s hf] at e
    cases e
    unfold ts_flat at hf
    generalize ts_sort X Y i j k = t at hc hm hf ⊢
    have hp : 0 < t.2.2.1.toInt := by
      have : ¬ t.2.2.1 ≤ 0 := fun z => hf (Or.inr (Or.inr (Or.inr z)))
      rw [Int64.le_iff_toInt_le, Int64.toInt_zero] at this
      omega
    unfold vt_ok ts_val
    dsimp only
    exact ⟨ts_mk hm.1.1 hm.1.2 hm.2.2 hp, ts_mk hm.2.1.1 hm.2.1.2 hm.2.2 hp, hc.1, hc.2.1, hc.2.2⟩
theorem tk_all {P : ts_R → Prop} (F : Nat → Nat → Nat → Option ts_R) (i j a : Nat) (h : ∀ k, k < j + 1 + a → ∀ v, F i j k = some v → P v) : ∀ v, v ∈ tk F i j a → P v := by
  induction a with
  | zero => intro v hv; simp [tk] at hv
  | succ a ih =>
    intro v hv
    rw [tk, List.mem_append] at hv
    rcases hv with hv | hv
    · exact ih (fun k hk => h k (by omega)) v hv
    · exact h _ (by omega) v (Option.mem_toList.mp hv)
theorem tj_all {P : ts_R → Prop} (F : Nat → Nat → Nat → Option ts_R) (n i a : Nat) (ha : i + 1 + a ≤ n) (h : ∀ j k, j < n → k < n → ∀ v, F i j k = some v → P v) : ∀ v, v ∈ tj F n i a → P v := by
  induction a with
  | zero => intro v hv; simp [tj] at hv
  | succ a ih =>
    intro v hv
    rw [tj, List.mem_append] at hv
    rcases hv with hv | hv
    · exact ih (by omega) v hv
    · exact tk_all F i (i + 1 + a) _ (fun k hk => h _ k (by omega) (by omega)) v hv
theorem ti_all {P : ts_R → Prop} (F : Nat → Nat → Nat → Option ts_R) (n a : Nat) (ha : a ≤ n) (h : ∀ i j k, i < n → j < n → k < n → ∀ v, F i j k = some v → P v) : ∀ v, v ∈ ti F n a → P v := by
  induction a with
  | zero => intro v hv; simp [ti] at hv
  | succ a ih =>
    intro v hv
    rw [ti, List.mem_append] at hv
    rcases hv with hv | hv
    · exact ih (by omega) v hv
    · exact tj_all F n a _ (by omega) (fun j k hj hk => h a j k (by omega) hj hk) v hv
def fv_fr (h k : am_H) : Prop := k.2 = h.2 ∧ (∀ a, a ≠ 77 → a ≠ 83 → a ≠ 84 → a ≠ 85 → k.1 a = h.1 a) ∧ ∀ b, ¬ (5 ≤ b ∧ b ≤ 15) → k.1 77 b = h.1 77 b
theorem m_X9_findVotes (q : Nat) (hq : q < 2) (n m : Nat) (hn : n ≤ 8) (hm : m ≤ 8) (F G : Nat → Nat → Nat → Option ts_R) (oF : ∀ i j k u, F i j k = some u → u.2.2.1 = -1 ∨ u.2.2.1 = 1) (oG : ∀ i j k u, G i j k = some u → u.2.2.1 = -1 ∨ u.2.2.1 = 1) (h : am_H) (tF : tb h 0 n F) (tG : tb h (1 + q) m G) (sl : Int32) (hsl : h.1 82 0 = sl) (A B : List ts_R) (eA : ti F n n = A) (eB : ti G m m = B) (hA : ∀ v, v ∈ A → vt_ok v) (hB : ∀ v, v ∈ B → vt_ok v) : ∃ h2, fX9_findVotes [.ref 77, .int (nI q)] h = some (none, h2) ∧ vr_has h2 (vall sl A B) ∧ fv_fr h h2 := by
  obtain ⟨h1, a1, a2, a3⟩ := m_X9_layTriples 0 (by omega) 83 (Or.inl rfl) F oF n hn h tF
  have f1 : lt_fr h (am_ui h1 77 11 (nI (ti F n n).length)) 83 ∨ True := Or.inr trivial
  have tG1 : tb (am_ui h1 77 11 (nI (ti F n n).length)) (1 + q) m G := by
    obtain ⟨r0, X, Y, e1, e2, b⟩ := tb_fr (Or.inl rfl) a3 tG
    refine ⟨by rw [← r0]; ((try simp only [am_ui_1, am_ui_2, true_and, and_true, and_self, if_true, reduceIte]); (repeat first | rw [if_neg (by omega)] | rw [if_pos (by omega)]); try rfl), X, Y, ?_, ?_, b⟩
    · rw [← e1]; funext z; ((try simp only [am_ui_1, am_ui_2, true_and, and_true, and_self, if_true, reduceIte]); (repeat first | rw [if_neg (by omega)] | rw [if_pos (by omega)]); try rfl)
    · rw [← e2]; funext z; ((try simp only [am_ui_1, am_ui_2, true_and, and_true, and_self, if_true, reduceIte]); (repeat first | rw [if_neg (by omega)] | rw [if_pos (by omega)]); try rfl)
  rw [eA] at a1 a2 tG1
  obtain ⟨h2, b1, b2, b3⟩ := m_X9_layTriples (1 + q) (by omega) 84 (Or.inr rfl) G oG m hm (am_ui h1 77 11 (nI A.length)) tG1
  rw [eB] at b1 b2
  have lA : A.length < 57 := by
    have := ti_len F n n
    have := ci_bd n (by omega)
    rw [← eA]
    omega
  have lB : B.length < 57 := by
    have := ti_len G m m
    have := ci_bd m (by omega)
    rw [← eB]
    omega
  have a1' : fX9_layTriples [.ref 77, .int 0, .ref 83] h = some (some (.int (nI A.length)), h1) := a1
  have r0 : am_Re GX9_findVotes cX9_findVotes (0, [some (.ref 77), some (.int (nI q)), none, none, none, none], [], h) (35, [some (.ref 77), some (.int (nI q)), some (.int (nI 0)), none, none, none], [], am_ui (am_ui h2 77 13 (nI B.length)) 77 15 0) := by
    refine am_Re_go (sp := [35]) 40 ?_
    simp only [am_go_s, am_bd_none, am_bd_rt, am_bd_nx, am_bd_ite, am_1i_c, am_2i_c, am_1l_c, am_2l_c, am_li_c, am_1r_c, am_ri_c, am_rii_c, am_ril_c, am_vi_c, am_vl_c, am_vr_c, am_ob_c, am_ob_n, am_ob_ite, am_kk_i, am_kk_r, am_kk_l, am_kk_n, am_ui_1, am_ui_2, am_ul_1, am_ul_2, am_b0, am_tl_s, am_tl_n, am_jp, am_ic, am_ct_n, am_ct_c, am_10, am_01, am_b1, am_nn, or_true, or_false, true_or, false_or, Int32.reduceLT, Int32.reduceLE, Int32.reduceAdd, Int32.reduceSub, not_true_eq_false, not_false_eq_true, Nat.reduceAdd, Int.reduceAdd, Int.reduceNeg, Int.reduceLE, Int.reduceSub, Int.reduceToNat, if_true, if_false, ite_true, ite_false, Bool.or_false, Bool.false_or, Bool.or_true, Bool.true_or, Nat.reduceBEq, Nat.reduceEqDiff, reduceIte, eq_self, false_and, and_false, true_and, and_true, Bool.false_eq_true, Bool.true_eq_false, reduceCtorEq, dX9_findVotes_0, am_dx_aload_n_0, am_ld_0, dX9_findVotes_1, dX9_findVotes_2, am_dx_iconst_0, dX9_findVotes_3, dX9_findVotes_4, am_dx_getfield, dX9_findVotes_7, am_dx_invokevirtual, dX9_findVotes_10, am_dx_putfield, dX9_findVotes_13, dX9_findVotes_14, dX9_findVotes_15, am_dx_iconst_1, dX9_findVotes_16, am_dx_iload_n_1, am_ld_1, dX9_findVotes_17, am_dx_iadd, dX9_findVotes_18, dX9_findVotes_19, dX9_findVotes_22, dX9_findVotes_25, dX9_findVotes_28, dX9_findVotes_29, dX9_findVotes_30, dX9_findVotes_33, dX9_findVotes_34, am_dx_istore_n_2, am_set_2, am_set_1, am_st1_2, am_lnl_2, dX9_findVotes_35, am_dx_iload_n_2, am_ld_2, dX9_findVotes_36, am_dx_bipush_64, dX9_findVotes_38, am_dx_if_icmp_ge, dX9_findVotes_41, dX9_findVotes_42, dX9_findVotes_45, dX9_findVotes_46, dX9_findVotes_47, am_dx_iastore, dX9_findVotes_48, am_dx_iinc_2_1, dX9_findVotes_51, am_dx_goto, dX9_findVotes_54, dX9_findVotes_55, dX9_findVotes_56, dX9_findVotes_57, dX9_findVotes_58, dX9_findVotes_61, dX9_findVotes_62, dX9_findVotes_65, am_dx_imul, dX9_findVotes_66, dX9_findVotes_69, am_dx_bipush_6, dX9_findVotes_71, dX9_findVotes_72, dX9_findVotes_73, dX9_findVotes_76, am_dx_idiv, dX9_findVotes_77, dX9_findVotes_78, am_dx_istore_n_3, am_set_3, am_st1_3, am_lnl_3, dX9_findVotes_79, dX9_findVotes_81, dX9_findVotes_82, dX9_findVotes_83, dX9_findVotes_86, am_dx_irem, dX9_findVotes_87, dX9_findVotes_88, am_dx_istore_4, am_set_4, am_ld_3, am_st1_4, am_lnl_4, dX9_findVotes_90, dX9_findVotes_91, am_dx_iload_n_3, dX9_findVotes_92, am_dx_iload_4, am_ld_4, dX9_findVotes_94, dX9_findVotes_97, am_dx_ifCond_eq, dX9_findVotes_100, dX9_findVotes_101, am_dx_dup_i, am_dx_dup_r, dX9_findVotes_102, dX9_findVotes_105, dX9_findVotes_106, dX9_findVotes_107, dX9_findVotes_110, am_dx_iconst_3, dX9_findVotes_111, am_dx_istore_5, am_set_5, am_st1_5, am_lnl_5, dX9_findVotes_113, am_dx_iload_5, am_ld_5, dX9_findVotes_115, dX9_findVotes_117, dX9_findVotes_120, dX9_findVotes_121, dX9_findVotes_124, am_dx_bipush_8, dX9_findVotes_126, dX9_findVotes_127, dX9_findVotes_130, dX9_findVotes_131, dX9_findVotes_133, dX9_findVotes_134, am_dx_iaload, dX9_findVotes_135, dX9_findVotes_136, dX9_findVotes_137, dX9_findVotes_140, dX9_findVotes_142, dX9_findVotes_144, dX9_findVotes_145, dX9_findVotes_146, dX9_findVotes_147, am_dx_dup2, dX9_findVotes_148, dX9_findVotes_149, dX9_findVotes_150, dX9_findVotes_151, dX9_findVotes_152, am_dx_iinc_5_1, dX9_findVotes_155, dX9_findVotes_158, dX9_findVotes_161, dX9_findVotes_164, am_dx_return, lX9_findVotes_26, am_fr_9_12, lX9_findVotes_173, am_cV_2, am_l0, am_l1, am_l2, am_l3, am_l4, lX9_findVotes_177, am_fr_9_11, am_fw_9_11, lX9_findVotes_29, am_fr_9_14, lX9_findVotes_180, am_fr_9_13, am_fw_9_13, lX9_findVotes_183, am_fr_9_15, am_fw_9_15, lX9_findVotes_32, am_fr_9_16, lX9_findVotes_186, am_kd_77, am_gr_77_12, am_kd_83, am_gr_77_14, am_kd_84, am_gr_77_16, am_kd_85, a1', b1, am_1p, nI_0]
  have k0 : ∀ a, a ≠ 77 → (am_ui (am_ui h2 77 13 (nI B.length)) 77 15 0).1 a = h2.1 a := by
    intro a ha
    funext e
    ((try simp only [am_ui_1, am_ui_2, true_and, and_true, and_self, if_true, reduceIte]); (repeat first | rw [if_neg (by omega)] | rw [if_pos (by omega)]); try rfl)
  have k1 : ∀ b, b ≠ 13 → b ≠ 15 → (am_ui (am_ui h2 77 13 (nI B.length)) 77 15 0).1 77 b = h2.1 77 b := by
    intro b hb1 hb2
    ((try simp only [am_ui_1, am_ui_2, true_and, and_true, and_self, if_true, reduceIte]); (repeat first | rw [if_neg (by omega)] | rw [if_pos (by omega)]); try rfl)
  have k2 : (am_ui (am_ui h2 77 13 (nI B.length)) 77 15 0).1 77 13 = nI B.length := by ((try simp only [am_ui_1, am_ui_2, true_and, and_true, and_self, if_true, reduceIte]); (repeat first | rw [if_neg (by omega)] | rw [if_pos (by omega)]); try rfl)
  have k3 : (am_ui (am_ui h2 77 13 (nI B.length)) 77 15 0).1 77 15 = 0 := by ((try simp only [am_ui_1, am_ui_2, true_and, and_true, and_self, if_true, reduceIte]); (repeat first | rw [if_neg (by omega)] | rw [if_pos (by omega)]); try rfl)
  have k4 : (am_ui (am_ui h2 77 13 (nI B.length)) 77 15 0).2 = h2.2 := rfl
  generalize am_ui (am_ui h2 77 13 (nI B.length)) 77 15 0 = h3 at r0 k0 k1 k2 k3 k4
  obtain ⟨h4, ⟨i1, i2⟩, r1⟩ := am_loopS (G := GX9_findVotes) (cc := cX9_findVotes) (fun x h => (35, [some (.ref 77), some (.int (nI q)), some (.int (nI x)), none, none, none], [], h)) (fun x h => (∀ y, y < x → h.1 85 y = 0) ∧ (h.2 = h3.2 ∧ ∀ a, a ≠ 85 → h.1 a = h3.1 a)) 0 64 (by omega) (fun x _ hx h5 hI => by
    have q6 : ¬ 64 ≤ nI x := nIlt' (a := x) (b := 64) (by omega) hx
    have hxx : ∀ z : am_S, am_ix (nI x) 64 z = z := fun z => am_ix_c hx (by omega)
    have hcl := am_clp hx (by omega)
    refine ⟨am_ui h5 85 x 0, ⟨fun y hy => ?_, hI.2.1, fun a ha => ?_⟩, am_Re_go (sp := [35]) 40 (by simp only [am_go_s, am_bd_none, am_bd_rt, am_bd_nx, am_bd_ite, am_1i_c, am_2i_c, am_1l_c, am_2l_c, am_li_c, am_1r_c, am_ri_c, am_rii_c, am_ril_c, am_vi_c, am_vl_c, am_vr_c, am_ob_c, am_ob_n, am_ob_ite, am_kk_i, am_kk_r, am_kk_l, am_kk_n, am_ui_1, am_ui_2, am_ul_1, am_ul_2, am_b0, am_tl_s, am_tl_n, am_jp, am_ic, am_ct_n, am_ct_c, am_10, am_01, am_b1, am_nn, or_true, or_false, true_or, false_or, Int32.reduceLT, Int32.reduceLE, Int32.reduceAdd, Int32.reduceSub, not_true_eq_false, not_false_eq_true, Nat.reduceAdd, Int.reduceAdd, Int.reduceNeg, Int.reduceLE, Int.reduceSub, Int.reduceToNat, if_true, if_false, ite_true, ite_false, Bool.or_false, Bool.false_or, Bool.or_true, Bool.true_or, Nat.reduceBEq, Nat.reduceEqDiff, reduceIte, eq_self, false_and, and_false, true_and, and_true, Bool.false_eq_true, Bool.true_eq_false, reduceCtorEq, dX9_findVotes_0, am_dx_aload_n_0, am_ld_0, dX9_findVotes_1, dX9_findVotes_2, am_dx_iconst_0, dX9_findVotes_3, dX9_findVotes_4, am_dx_getfield, dX9_findVotes_7, am_dx_invokevirtual, dX9_findVotes_10, am_dx_putfield, dX9_findVotes_13, dX9_findVotes_14, dX9_findVotes_15, am_dx_iconst_1, dX9_findVotes_16, am_dx_iload_n_1, am_ld_1, dX9_findVotes_17, am_dx_iadd, dX9_findVotes_18, dX9_findVotes_19, dX9_findVotes_22, dX9_findVotes_25, dX9_findVotes_28, dX9_findVotes_29, dX9_findVotes_30, dX9_findVotes_33, dX9_findVotes_34, am_dx_istore_n_2, am_set_2, am_set_1, am_st1_2, am_lnl_2, dX9_findVotes_35, am_dx_iload_n_2, am_ld_2, dX9_findVotes_36, am_dx_bipush_64, dX9_findVotes_38, am_dx_if_icmp_ge, dX9_findVotes_41, dX9_findVotes_42, dX9_findVotes_45, dX9_findVotes_46, dX9_findVotes_47, am_dx_iastore, dX9_findVotes_48, am_dx_iinc_2_1, dX9_findVotes_51, am_dx_goto, dX9_findVotes_54, dX9_findVotes_55, dX9_findVotes_56, dX9_findVotes_57, dX9_findVotes_58, dX9_findVotes_61, dX9_findVotes_62, dX9_findVotes_65, am_dx_imul, dX9_findVotes_66, dX9_findVotes_69, am_dx_bipush_6, dX9_findVotes_71, dX9_findVotes_72, dX9_findVotes_73, dX9_findVotes_76, am_dx_idiv, dX9_findVotes_77, dX9_findVotes_78, am_dx_istore_n_3, am_set_3, am_st1_3, am_lnl_3, dX9_findVotes_79, dX9_findVotes_81, dX9_findVotes_82, dX9_findVotes_83, dX9_findVotes_86, am_dx_irem, dX9_findVotes_87, dX9_findVotes_88, am_dx_istore_4, am_set_4, am_ld_3, am_st1_4, am_lnl_4, dX9_findVotes_90, dX9_findVotes_91, am_dx_iload_n_3, dX9_findVotes_92, am_dx_iload_4, am_ld_4, dX9_findVotes_94, dX9_findVotes_97, am_dx_ifCond_eq, dX9_findVotes_100, dX9_findVotes_101, am_dx_dup_i, am_dx_dup_r, dX9_findVotes_102, dX9_findVotes_105, dX9_findVotes_106, dX9_findVotes_107, dX9_findVotes_110, am_dx_iconst_3, dX9_findVotes_111, am_dx_istore_5, am_set_5, am_st1_5, am_lnl_5, dX9_findVotes_113, am_dx_iload_5, am_ld_5, dX9_findVotes_115, dX9_findVotes_117, dX9_findVotes_120, dX9_findVotes_121, dX9_findVotes_124, am_dx_bipush_8, dX9_findVotes_126, dX9_findVotes_127, dX9_findVotes_130, dX9_findVotes_131, dX9_findVotes_133, dX9_findVotes_134, am_dx_iaload, dX9_findVotes_135, dX9_findVotes_136, dX9_findVotes_137, dX9_findVotes_140, dX9_findVotes_142, dX9_findVotes_144, dX9_findVotes_145, dX9_findVotes_146, dX9_findVotes_147, am_dx_dup2, dX9_findVotes_148, dX9_findVotes_149, dX9_findVotes_150, dX9_findVotes_151, dX9_findVotes_152, am_dx_iinc_5_1, dX9_findVotes_155, dX9_findVotes_158, dX9_findVotes_161, dX9_findVotes_164, am_dx_return, lX9_findVotes_26, am_fr_9_12, lX9_findVotes_173, am_cV_2, am_l0, am_l1, am_l2, am_l3, am_l4, lX9_findVotes_177, am_fr_9_11, am_fw_9_11, lX9_findVotes_29, am_fr_9_14, lX9_findVotes_180, am_fr_9_13, am_fw_9_13, lX9_findVotes_183, am_fr_9_15, am_fw_9_15, lX9_findVotes_32, am_fr_9_16, lX9_findVotes_186, am_kd_77, am_gr_77_12, am_kd_83, am_gr_77_14, am_kd_84, am_gr_77_16, am_kd_85, q6, hxx, hcl, nI_1p])⟩
    · by_cases e : y = x
      · subst e; ((try simp only [am_ui_1, am_ui_2, true_and, and_true, and_self, if_true, reduceIte]); (repeat first | rw [if_neg (by omega)] | rw [if_pos (by omega)]); try rfl)
      · rw [← hI.1 y (by omega)]; ((try simp only [am_ui_1, am_ui_2, true_and, and_true, and_self, if_true, reduceIte]); (repeat first | rw [if_neg (by omega)] | rw [if_pos (by omega)]); try rfl)
    · rw [← hI.2.2 a ha]
      funext e
      ((try simp only [am_ui_1, am_ui_2, true_and, and_true, and_self, if_true, reduceIte]); (repeat first | rw [if_neg (by omega)] | rw [if_pos (by omega)]); try rfl)) h3 ⟨fun y hy => by omega, rfl, fun _ _ => rfl⟩
  obtain ⟨i2, i3⟩ := i2
  have hA77 : h2.1 77 11 = nI A.length := by
    rw [b3.2.2 11 (by omega)]
    ((try simp only [am_ui_1, am_ui_2, true_and, and_true, and_self, if_true, reduceIte]); (repeat first | rw [if_neg (by omega)] | rw [if_pos (by omega)]); try rfl)
  have hvq : vq h4 sl A B := by
    refine ⟨?_, ?_, ?_, ?_, ?_, lA, lB, hA, hB⟩
    · rw [i3 82 (by omega), k0 82 (by omega), b3.2.1 82 (by omega) (by omega), ← hsl, ← a3.2.1 82 (by omega) (by omega)]
      ((try simp only [am_ui_1, am_ui_2, true_and, and_true, and_self, if_true, reduceIte]); (repeat first | rw [if_neg (by omega)] | rw [if_pos (by omega)]); try rfl)
    · intro a v e
      have := a2 a v e
      unfold rw_at at *
      rw [i3 83 (by omega), k0 83 (by omega), b3.2.1 83 (by omega) (by omega)]
      have e83 : (am_ui h1 77 11 (nI A.length)).1 83 = h1.1 83 := by funext z; ((try simp only [am_ui_1, am_ui_2, true_and, and_true, and_self, if_true, reduceIte]); (repeat first | rw [if_neg (by omega)] | rw [if_pos (by omega)]); try rfl)
      rw [e83]
      exact this
    · intro a v e
      have := b2 a v e
      unfold rw_at at *
      rw [i3 84 (by omega), k0 84 (by omega)]
      exact this
    · rw [i3 77 (by omega), k1 11 (by omega) (by omega)]
      exact hA77
    · rw [i3 77 (by omega)]
      exact k2
  have s0 : vr_has h4 (fun _ => 0, 0) := ⟨fun x hx => i1 x hx, by rw [i3 77 (by omega)]; exact k3⟩
  have r2 : am_Re GX9_findVotes cX9_findVotes (35, [some (.ref 77), some (.int (nI q)), some (.int (nI 64)), none, none, none], [], h4) (56, [some (.ref 77), some (.int (nI q)), some (.int (nI (B.length * 0))), none, none, none], [], h4) := by
    have q6 : 64 ≤ nI 64 := nIle' (a := 64) (b := 64) (by omega) (by omega)
    rw [Nat.mul_zero]
    refine am_Re_go (sp := [56]) 40 ?_
    simp only [am_go_s, am_bd_none, am_bd_rt, am_bd_nx, am_bd_ite, am_1i_c, am_2i_c, am_1l_c, am_2l_c, am_li_c, am_1r_c, am_ri_c, am_rii_c, am_ril_c, am_vi_c, am_vl_c, am_vr_c, am_ob_c, am_ob_n, am_ob_ite, am_kk_i, am_kk_r, am_kk_l, am_kk_n, am_ui_1, am_ui_2, am_ul_1, am_ul_2, am_b0, am_tl_s, am_tl_n, am_jp, am_ic, am_ct_n, am_ct_c, am_10, am_01, am_b1, am_nn, or_true, or_false, true_or, false_or, Int32.reduceLT, Int32.reduceLE, Int32.reduceAdd, Int32.reduceSub, not_true_eq_false, not_false_eq_true, Nat.reduceAdd, Int.reduceAdd, Int.reduceNeg, Int.reduceLE, Int.reduceSub, Int.reduceToNat, if_true, if_false, ite_true, ite_false, Bool.or_false, Bool.false_or, Bool.or_true, Bool.true_or, Nat.reduceBEq, Nat.reduceEqDiff, reduceIte, eq_self, false_and, and_false, true_and, and_true, Bool.false_eq_true, Bool.true_eq_false, reduceCtorEq, dX9_findVotes_0, am_dx_aload_n_0, am_ld_0, dX9_findVotes_1, dX9_findVotes_2, am_dx_iconst_0, dX9_findVotes_3, dX9_findVotes_4, am_dx_getfield, dX9_findVotes_7, am_dx_invokevirtual, dX9_findVotes_10, am_dx_putfield, dX9_findVotes_13, dX9_findVotes_14, dX9_findVotes_15, am_dx_iconst_1, dX9_findVotes_16, am_dx_iload_n_1, am_ld_1, dX9_findVotes_17, am_dx_iadd, dX9_findVotes_18, dX9_findVotes_19, dX9_findVotes_22, dX9_findVotes_25, dX9_findVotes_28, dX9_findVotes_29, dX9_findVotes_30, dX9_findVotes_33, dX9_findVotes_34, am_dx_istore_n_2, am_set_2, am_set_1, am_st1_2, am_lnl_2, dX9_findVotes_35, am_dx_iload_n_2, am_ld_2, dX9_findVotes_36, am_dx_bipush_64, dX9_findVotes_38, am_dx_if_icmp_ge, dX9_findVotes_41, dX9_findVotes_42, dX9_findVotes_45, dX9_findVotes_46, dX9_findVotes_47, am_dx_iastore, dX9_findVotes_48, am_dx_iinc_2_1, dX9_findVotes_51, am_dx_goto, dX9_findVotes_54, dX9_findVotes_55, dX9_findVotes_56, dX9_findVotes_57, dX9_findVotes_58, dX9_findVotes_61, dX9_findVotes_62, dX9_findVotes_65, am_dx_imul, dX9_findVotes_66, dX9_findVotes_69, am_dx_bipush_6, dX9_findVotes_71, dX9_findVotes_72, dX9_findVotes_73, dX9_findVotes_76, am_dx_idiv, dX9_findVotes_77, dX9_findVotes_78, am_dx_istore_n_3, am_set_3, am_st1_3, am_lnl_3, dX9_findVotes_79, dX9_findVotes_81, dX9_findVotes_82, dX9_findVotes_83, dX9_findVotes_86, am_dx_irem, dX9_findVotes_87, dX9_findVotes_88, am_dx_istore_4, am_set_4, am_ld_3, am_st1_4, am_lnl_4, dX9_findVotes_90, dX9_findVotes_91, am_dx_iload_n_3, dX9_findVotes_92, am_dx_iload_4, am_ld_4, dX9_findVotes_94, dX9_findVotes_97, am_dx_ifCond_eq, dX9_findVotes_100, dX9_findVotes_101, am_dx_dup_i, am_dx_dup_r, dX9_findVotes_102, dX9_findVotes_105, dX9_findVotes_106, dX9_findVotes_107, dX9_findVotes_110, am_dx_iconst_3, dX9_findVotes_111, am_dx_istore_5, am_set_5, am_st1_5, am_lnl_5, dX9_findVotes_113, am_dx_iload_5, am_ld_5, dX9_findVotes_115, dX9_findVotes_117, dX9_findVotes_120, dX9_findVotes_121, dX9_findVotes_124, am_dx_bipush_8, dX9_findVotes_126, dX9_findVotes_127, dX9_findVotes_130, dX9_findVotes_131, dX9_findVotes_133, dX9_findVotes_134, am_dx_iaload, dX9_findVotes_135, dX9_findVotes_136, dX9_findVotes_137, dX9_findVotes_140, dX9_findVotes_142, dX9_findVotes_144, dX9_findVotes_145, dX9_findVotes_146, dX9_findVotes_147, am_dx_dup2, dX9_findVotes_148, dX9_findVotes_149, dX9_findVotes_150, dX9_findVotes_151, dX9_findVotes_152, am_dx_iinc_5_1, dX9_findVotes_155, dX9_findVotes_158, dX9_findVotes_161, dX9_findVotes_164, am_dx_return, lX9_findVotes_26, am_fr_9_12, lX9_findVotes_173, am_cV_2, am_l0, am_l1, am_l2, am_l3, am_l4, lX9_findVotes_177, am_fr_9_11, am_fw_9_11, lX9_findVotes_29, am_fr_9_14, lX9_findVotes_180, am_fr_9_13, am_fw_9_13, lX9_findVotes_183, am_fr_9_15, am_fw_9_15, lX9_findVotes_32, am_fr_9_16, lX9_findVotes_186, am_kd_77, am_gr_77_12, am_kd_83, am_gr_77_14, am_kd_84, am_gr_77_16, am_kd_85, q6, nI_0]
  obtain ⟨⟨h5, y1, y2, y3⟩, ⟨j1, j2⟩, r3⟩ := am_loopS (fun a (w : am_H × Option Value × Option Value × Option Value) => (56, [some (.ref 77), some (.int (nI q)), some (.int (nI (B.length * a))), w.2.1, w.2.2.1, w.2.2.2], [], w.1)) (fun a w => vr_has w.1 ((A.take a).foldl (vrow sl B) (fun _ => 0, 0)) ∧ vr_fr h4 w.1) 0 A.length (by omega) (fun a _ ha w hI => v_a (nI q) sl A B h4 hvq a ha _ w hI.1 hI.2) (h4, none, none, none) ⟨s0, vr_rf h4⟩
  rw [List.take_length] at j1
  refine ⟨h5, am_run2 _ rfl rfl rfl (r0 _ (r1 _ (r2 _ (r3 _ ?_)))), j1, ?_⟩
  · obtain ⟨q1, q2, q3, q4, q5, q6, q7, q8, q9⟩ := hvq
    have e1 : h5.1 77 11 = nI A.length := by rw [j2.2.2 11 (by omega)]; exact q4
    have e2 : h5.1 77 13 = nI B.length := by rw [j2.2.2 13 (by omega)]; exact q5
    have l2 : A.length * B.length ≤ 3136 := Nat.mul_le_mul (show A.length ≤ 56 by omega) (show B.length ≤ 56 by omega)
    have g2 : nI A.length * nI B.length = nI (A.length * B.length) := pk_mul _ _
    have g1 : nI (A.length * B.length) ≤ nI (B.length * A.length) := by
      rw [Nat.mul_comm, Int32.le_iff_toInt_le]
      omega
    generalize B.length * A.length = xx at g1
    refine am_Big_end (sp := []) 40 ?_
    simp only [am_go_s, am_bd_none, am_bd_rt, am_bd_nx, am_bd_ite, am_1i_c, am_2i_c, am_1l_c, am_2l_c, am_li_c, am_1r_c, am_ri_c, am_rii_c, am_ril_c, am_vi_c, am_vl_c, am_vr_c, am_ob_c, am_ob_n, am_ob_ite, am_kk_i, am_kk_r, am_kk_l, am_kk_n, am_ui_1, am_ui_2, am_ul_1, am_ul_2, am_b0, am_tl_s, am_tl_n, am_jp, am_ic, am_ct_n, am_ct_c, am_10, am_01, am_b1, am_nn, or_true, or_false, true_or, false_or, Int32.reduceLT, Int32.reduceLE, Int32.reduceAdd, Int32.reduceSub, not_true_eq_false, not_false_eq_true, Nat.reduceAdd, Int.reduceAdd, Int.reduceNeg, Int.reduceLE, Int.reduceSub, Int.reduceToNat, if_true, if_false, ite_true, ite_false, Bool.or_false, Bool.false_or, Bool.or_true, Bool.true_or, Nat.reduceBEq, Nat.reduceEqDiff, reduceIte, eq_self, false_and, and_false, true_and, and_true, Bool.false_eq_true, Bool.true_eq_false, reduceCtorEq, dX9_findVotes_0, am_dx_aload_n_0, am_ld_0, dX9_findVotes_1, dX9_findVotes_2, am_dx_iconst_0, dX9_findVotes_3, dX9_findVotes_4, am_dx_getfield, dX9_findVotes_7, am_dx_invokevirtual, dX9_findVotes_10, am_dx_putfield, dX9_findVotes_13, dX9_findVotes_14, dX9_findVotes_15, am_dx_iconst_1, dX9_findVotes_16, am_dx_iload_n_1, am_ld_1, dX9_findVotes_17, am_dx_iadd, dX9_findVotes_18, dX9_findVotes_19, dX9_findVotes_22, dX9_findVotes_25, dX9_findVotes_28, dX9_findVotes_29, dX9_findVotes_30, dX9_findVotes_33, dX9_findVotes_34, am_dx_istore_n_2, am_set_2, am_set_1, am_st1_2, am_lnl_2, dX9_findVotes_35, am_dx_iload_n_2, am_ld_2, dX9_findVotes_36, am_dx_bipush_64, dX9_findVotes_38, am_dx_if_icmp_ge, dX9_findVotes_41, dX9_findVotes_42, dX9_findVotes_45, dX9_findVotes_46, dX9_findVotes_47, am_dx_iastore, dX9_findVotes_48, am_dx_iinc_2_1, dX9_findVotes_51, am_dx_goto, dX9_findVotes_54, dX9_findVotes_55, dX9_findVotes_56, dX9_findVotes_57, dX9_findVotes_58, dX9_findVotes_61, dX9_findVotes_62, dX9_findVotes_65, am_dx_imul, dX9_findVotes_66, dX9_findVotes_69, am_dx_bipush_6, dX9_findVotes_71, dX9_findVotes_72, dX9_findVotes_73, dX9_findVotes_76, am_dx_idiv, dX9_findVotes_77, dX9_findVotes_78, am_dx_istore_n_3, am_set_3, am_st1_3, am_lnl_3, dX9_findVotes_79, dX9_findVotes_81, dX9_findVotes_82, dX9_findVotes_83, dX9_findVotes_86, am_dx_irem, dX9_findVotes_87, dX9_findVotes_88, am_dx_istore_4, am_set_4, am_ld_3, am_st1_4, am_lnl_4, dX9_findVotes_90, dX9_findVotes_91, am_dx_iload_n_3, dX9_findVotes_92, am_dx_iload_4, am_ld_4, dX9_findVotes_94, dX9_findVotes_97, am_dx_ifCond_eq, dX9_findVotes_100, dX9_findVotes_101, am_dx_dup_i, am_dx_dup_r, dX9_findVotes_102, dX9_findVotes_105, dX9_findVotes_106, dX9_findVotes_107, dX9_findVotes_110, am_dx_iconst_3, dX9_findVotes_111, am_dx_istore_5, am_set_5, am_st1_5, am_lnl_5, dX9_findVotes_113, am_dx_iload_5, am_ld_5, dX9_findVotes_115, dX9_findVotes_117, dX9_findVotes_120, dX9_findVotes_121, dX9_findVotes_124, am_dx_bipush_8, dX9_findVotes_126, dX9_findVotes_127, dX9_findVotes_130, dX9_findVotes_131, dX9_findVotes_133, dX9_findVotes_134, am_dx_iaload, dX9_findVotes_135, dX9_findVotes_136, dX9_findVotes_137, dX9_findVotes_140, dX9_findVotes_142, dX9_findVotes_144, dX9_findVotes_145, dX9_findVotes_146, dX9_findVotes_147, am_dx_dup2, dX9_findVotes_148, dX9_findVotes_149, dX9_findVotes_150, dX9_findVotes_151, dX9_findVotes_152, am_dx_iinc_5_1, dX9_findVotes_155, dX9_findVotes_158, dX9_findVotes_161, dX9_findVotes_164, am_dx_return, lX9_findVotes_26, am_fr_9_12, lX9_findVotes_173, am_cV_2, am_l0, am_l1, am_l2, am_l3, am_l4, lX9_findVotes_177, am_fr_9_11, am_fw_9_11, lX9_findVotes_29, am_fr_9_14, lX9_findVotes_180, am_fr_9_13, am_fw_9_13, lX9_findVotes_183, am_fr_9_15, am_fw_9_15, lX9_findVotes_32, am_fr_9_16, lX9_findVotes_186, am_kd_77, am_gr_77_12, am_kd_83, am_gr_77_14, am_kd_84, am_gr_77_16, am_kd_85, e1, e2, g1, g2]
  · refine ⟨?_, fun a c1 c2 c3 c4 => ?_, fun b hb => ?_⟩
    · rw [j2.1, i2, k4, b3.1]
      exact a3.1
    · rw [j2.2.1 a c1 c4, i3 a c4, k0 a c1, b3.2.1 a c1 c3, ← a3.2.1 a c1 c2]
      funext e
      ((try simp only [am_ui_1, am_ui_2, true_and, and_true, and_self, if_true, reduceIte]); (repeat first | rw [if_neg (by omega)] | rw [if_pos (by omega)]); try rfl)
    · rw [j2.2.2 b (by omega), i3 77 (by omega), k1 b (by omega) (by omega), b3.2.2 b (by omega), ← a3.2.2 b (by omega)]
      ((try simp only [am_ui_1, am_ui_2, true_and, and_true, and_self, if_true, reduceIte]); (repeat first | rw [if_neg (by omega)] | rw [if_pos (by omega)]); try rfl)
