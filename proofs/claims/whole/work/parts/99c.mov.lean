/-! movers: what is found; the class's start, squareTo, append -/
abbrev mv_V : Type := List (Nat × Nat × Int64)
def t0 (M : pm_M) (V : mv_V) (k : Nat) : Prop := tkn M k ∨ ∃ v, v ∈ V ∧ v.1 = k
def t1 (M : pm_M) (V : mv_V) (k : Nat) : Prop := tkn M k ∨ ∃ v, v ∈ V ∧ v.2.1 = k
def mF (M0 M1 : pm_M) (m : Nat) (V : mv_V) (x : Nat) : Prop := ¬ t0 M0 V (x / m) ∧ ¬ t1 M1 V (x % m)
def nv (D : Nat → Int64) (T : Int64) (o : Option Nat) : Int64 := match o with
  | none => T
  | some y => D y
noncomputable def nb (F : Nat → Prop) (D : Nat → Int64) (T : Int64) : Nat → Option Nat
  | 0 => none
  | x + 1 => @ite _ (F x ∧ D x < nv D T (nb F D T x)) (Classical.propDecidable _) (some x) (nb F D T x)
theorem nb_p {F : Nat → Prop} {D : Nat → Int64} {T : Int64} {x : Nat} (h : F x ∧ D x < nv D T (nb F D T x)) : nb F D T (x + 1) = some x := by rw [nb, if_pos h]
theorem nb_n {F : Nat → Prop} {D : Nat → Int64} {T : Int64} {x : Nat} (h : ¬ (F x ∧ D x < nv D T (nb F D T x))) : nb F D T (x + 1) = nb F D T x := by rw [nb, if_neg h]
theorem nb_in {F : Nat → Prop} {D : Nat → Int64} {T : Int64} {x y : Nat} (h : nb F D T x = some y) : y < x ∧ F y ∧ D y < T := by
  induction x generalizing y with
  | zero => cases h
  | succ x ih =>
    by_cases c : F x ∧ D x < nv D T (nb F D T x)
    · rw [nb_p c] at h
      cases h
      refine ⟨by omega, c.1, ?_⟩
      cases e : nb F D T x with
      | none =>
        have := c.2
        rw [e] at this
        exact this
      | some z =>
        have := c.2
        rw [e] at this
        exact Int64.lt_trans this (ih e).2.2
    · rw [nb_n c] at h
      have := ih h
      exact ⟨by omega, this.2⟩
theorem nb_no {F : Nat → Prop} {D : Nat → Int64} {T : Int64} {x : Nat} (h : ∀ y, y < x → ¬ F y) : nb F D T x = none := by
  cases e : nb F D T x with
  | none => rfl
  | some y =>
    have := nb_in e
    exact absurd this.2.1 (h y this.1)
/-- the class's movers -/
def mc_has (h : am_H) (M0 M1 : pm_M) (V : mv_V) : Prop := h.1 69 3 = nI V.length ∧ (∀ i v, V[i]? = some v → h.1 70 i = nI v.1 ∧ h.1 71 i = nI v.2.1 ∧ h.1 72 i = v.2.2.toInt32) ∧ (∀ k, k < 8 → (t0 M0 V k → h.1 75 k = 1) ∧ (¬ t0 M0 V k → h.1 75 k = 0)) ∧ ∀ k, k < 8 → (t1 M1 V k → h.1 76 k = 1) ∧ (¬ t1 M1 V k → h.1 76 k = 0)
def ml_has (h : am_H) (Q : List ft_q) (X Y : Nat → Int32) (m : Nat) : Prop := ∀ k, k < m → h.2 73 k = ft_pl Q (X k) (Y k) 0 ∧ h.2 74 k = ft_pl Q (X k) (Y k) 1
def mo_fr (h k : am_H) : Prop := ∀ a, ¬ (69 ≤ a ∧ a ≤ 76) → k.1 a = h.1 a ∧ k.2 a = h.2 a
theorem mo_tr {a b c : am_H} (h1 : mo_fr a b) (h2 : mo_fr b c) : mo_fr a c := fun z hz => ⟨(h2 z hz).1.trans (h1 z hz).1, (h2 z hz).2.trans (h1 z hz).2⟩
def s1_has (h0 h : am_H) (Q : List ft_q) (k : Nat) : Prop := h.1 = (am_ui h0 69 3 0).1 ∧ (∀ a, ¬ (a = 73 ∨ a = 74) → h.2 a = h0.2 a) ∧ ml_has h Q (h0.1 6) (h0.1 7) k
theorem s1_s (h0 : am_H) (m : Nat) (hm : m ≤ 8) (Q : List ft_q) (r : ft_has h0 Q) (z : ab_has h0 (ft_d Q)) (ho : fo Q) (e5 : h0.1 5 3 = nI m) (k : Nat) (hk : k < m) (h : am_H) (hI : s1_has h0 h Q k) : ∃ h2, s1_has h0 h2 Q (k + 1) ∧ am_Re GX3_start cX3_start (8, [some (.ref 69), some (.ref 5), some (.ref 64), some (.ref 57), some (.ref 60), some (.int (nI k))], [], h) (8, [some (.ref 69), some (.ref 5), some (.ref 64), some (.ref 57), some (.ref 60), some (.int (nI (k + 1)))], [], h2) := by
  obtain ⟨i1, i2, i3⟩ := hI
  have ec : ∀ a b, a ≠ 69 → h.1 a b = h0.1 a b := fun a b ha => by
    rw [i1]
    ((try simp only [am_ui_1, am_ui_2, true_and, and_true, and_self, if_true, reduceIte]); (repeat first | rw [if_neg (by omega)] | rw [if_pos (by omega)]); try rfl)
  have e64 := i2 64 (by omega)
  have t0 : ∀ (x y ax : Int32) (h' : am_H), h'.1 = h.1 → h'.2 64 = h.2 64 → fX2_placeOf [.ref 64, .int x, .int y, .int ax] h' = some (some (.long (ft_pl Q x y ax)), h') := fun x y ax h' g1 g2 => m_X2_placeOf h' Q.length (ft_s Q) (ft_d Q) (by rw [g1, ec 64 4 (by omega)]; exact r.1) (by rw [g2, e64]; exact r.2.2.1) (by rw [g2, e64]; exact r.2.2.2.1) (by rw [g2, e64]; exact r.2.2.2.2.1) (by rw [g2, e64]; exact r.2.2.2.2.2) ⟨by rw [g2, e64]; exact z.1, by rw [g2, e64]; exact z.2.1, by rw [g2, e64]; exact z.2.2⟩ x y ax ho
  have c6 := ec 6 k (by omega)
  have c7 := ec 7 k (by omega)
  have c5 : h.1 5 3 = nI m := by rw [ec 5 3 (by omega)]; exact e5
  have t1 := t0 (h0.1 6 k) (h0.1 7 k) 0 h rfl rfl
  have t2 := t0 (h0.1 6 k) (h0.1 7 k) 1 (am_ul h 73 k (ft_pl Q (h0.1 6 k) (h0.1 7 k) 0)) rfl (by
    funext b
    simp only [am_ul_2]
    rw [if_neg (by omega)])
  have d6 : (am_ul h 73 k (ft_pl Q (h0.1 6 k) (h0.1 7 k) 0)).1 6 k = h0.1 6 k := c6
  have d7 : (am_ul h 73 k (ft_pl Q (h0.1 6 k) (h0.1 7 k) 0)).1 7 k = h0.1 7 k := c7
  have f1 : ∀ A B : Int64, (am_ul (am_ul h 73 k A) 74 k B).1 = h.1 := fun _ _ => rfl
  refine ⟨am_ul (am_ul h 73 k (ft_pl Q (h0.1 6 k) (h0.1 7 k) 0)) 74 k (ft_pl Q (h0.1 6 k) (h0.1 7 k) 1), ⟨i1, fun a ha => ?_, fun j hj => ?_⟩, ?_⟩
  · rw [← i2 a ha]
    funext b
    simp only [am_ul_2]
    rw [if_neg (by omega), if_neg (by omega)]
  · by_cases e : j = k
    · subst e
      refine ⟨?_, ?_⟩
      · simp only [am_ul_2]
        rw [if_neg (by omega), if_pos (by simp)]
      · simp only [am_ul_2]
        rw [if_pos (by simp)]
    · have := i3 j (by omega)
      refine ⟨?_, ?_⟩
      · rw [← this.1]
        simp only [am_ul_2]
        rw [if_neg (by omega), if_neg (by omega)]
      · rw [← this.2]
        simp only [am_ul_2]
        rw [if_neg (by omega), if_neg (by omega)]
  · have q6 := nIlt' (a := k) (b := m) (by omega) hk
    have hy : ∀ z : am_S, am_ix (nI k) 8 z = z := fun z => am_ix_c (show k < 8 by omega) (by omega)
    have hcm := am_clp (show k < 8 by omega) (by omega)
    have k5 : am_kd 5 = (1, 4) := rfl
    have k6 : am_kd 6 = (20, 8) := rfl
    have k7 : am_kd 7 = (20, 8) := rfl
    have r6 : am_gr 5 0 = 6 := rfl
    have r7 : am_gr 5 1 = 7 := rfl
    have k64 : am_kd 64 = (2, 12) := rfl
    generalize ft_pl Q (h0.1 6 k) (h0.1 7 k) 0 = A at t1 t2 d6 d7
    generalize ft_pl Q (h0.1 6 k) (h0.1 7 k) 1 = B at t2
    refine am_Re_go (sp := [8]) 80 ?_
    simp only [am_go_s, am_bd_none, am_bd_rt, am_bd_nx, am_bd_ite, am_1i_c, am_2i_c, am_1l_c, am_2l_c, am_li_c, am_1r_c, am_ri_c, am_rii_c, am_ril_c, am_vi_c, am_vl_c, am_vr_c, am_ob_c, am_ob_n, am_ob_ite, am_kk_i, am_kk_r, am_kk_l, am_kk_n, am_ui_1, am_ui_2, am_ul_1, am_ul_2, am_b0, am_tl_s, am_tl_n, am_jp, am_ic, am_ct_n, am_ct_c, am_10, am_01, am_b1, am_nn, or_true, or_false, true_or, false_or, Int32.reduceLT, Int32.reduceLE, Int32.reduceAdd, Int32.reduceSub, not_true_eq_false, not_false_eq_true, Nat.reduceAdd, Int.reduceAdd, Int.reduceNeg, Int.reduceLE, Int.reduceSub, Int.reduceToNat, if_true, if_false, ite_true, ite_false, Bool.or_false, Bool.false_or, Bool.or_true, Bool.true_or, Nat.reduceBEq, Nat.reduceEqDiff, reduceIte, eq_self, false_and, and_false, true_and, and_true, Bool.false_eq_true, Bool.true_eq_false, reduceCtorEq, dX3_start_0, am_dx_aload_n_0, am_ld_0, dX3_start_1, am_dx_iconst_0, dX3_start_2, am_dx_putfield, dX3_start_5, dX3_start_6, am_dx_istore_5, am_set_5, am_ld_4, am_set_4, am_st1_5, am_lnl_5, dX3_start_8, am_dx_iload_5, am_ld_5, dX3_start_10, am_dx_aload_n_1, am_ld_1, dX3_start_11, am_dx_getfield, dX3_start_14, am_dx_if_icmp_ge, dX3_start_17, dX3_start_18, dX3_start_21, dX3_start_23, am_dx_aload_n_2, am_ld_2, dX3_start_24, dX3_start_25, dX3_start_28, dX3_start_30, am_dx_iaload, dX3_start_31, dX3_start_32, dX3_start_35, dX3_start_37, dX3_start_38, dX3_start_39, am_dx_invokevirtual, dX3_start_42, am_dx_lastore, dX3_start_43, dX3_start_44, dX3_start_47, dX3_start_49, dX3_start_50, dX3_start_51, dX3_start_54, dX3_start_56, dX3_start_57, dX3_start_58, dX3_start_61, dX3_start_63, dX3_start_64, am_dx_iconst_1, dX3_start_65, dX3_start_68, dX3_start_69, am_dx_iinc_5_1, dX3_start_72, am_dx_goto, dX3_start_75, dX3_start_76, dX3_start_78, dX3_start_80, am_dx_bipush_8, dX3_start_82, dX3_start_85, dX3_start_86, dX3_start_89, dX3_start_91, am_dx_aload_n_3, am_ld_3, dX3_start_92, dX3_start_95, dX3_start_97, am_dx_baload, dX3_start_98, am_dx_bastore, dX3_start_99, dX3_start_100, dX3_start_103, dX3_start_105, am_dx_aload_4, dX3_start_107, dX3_start_110, dX3_start_112, dX3_start_113, dX3_start_114, dX3_start_117, dX3_start_120, am_dx_return, lX3_start_21, am_fr_3_3, am_fw_3_3, lX3_start_39, am_fr_1_3, am_fw_1_3, lX3_start_25, am_fr_3_4, lX3_start_42, am_fr_1_0, lX3_start_45, am_fr_1_1, lX3_start_48, am_cV_3, am_l0, am_l1, am_l2, am_l3, am_l4, lX3_start_29, am_fr_3_5, lX3_start_32, am_fr_3_6, lX3_start_54, am_fr_4_1, lX3_start_36, am_fr_3_7, am_kd_69, am_gr_69_4, am_kd_73, am_gr_69_5, am_kd_74, am_gr_69_6, am_kd_75, am_gr_69_7, am_kd_76, c5, q6, k5, k6, k7, r6, r7, k64, hy, hcm, c6, c7, t1, d6, d7, t2, nI_1p]
def s2_has (h1 h : am_H) (M0 M1 : pm_M) (k : Nat) : Prop := h.2 = h1.2 ∧ (∀ a, a ≠ 75 → a ≠ 76 → h.1 a = h1.1 a) ∧ (∀ j, j < k → (tkn M0 j → h.1 75 j = 1) ∧ (¬ tkn M0 j → h.1 75 j = 0)) ∧ ∀ j, j < k → (tkn M1 j → h.1 76 j = 1) ∧ (¬ tkn M1 j → h.1 76 j = 0)
theorem s2_s (h1 : am_H) (M0 M1 : pm_M) (g0 : pg_has h1 0 M0) (g1 : pg_has h1 1 M1) (k : Nat) (hk : k < 8) (h : am_H) (hI : s2_has h1 h M0 M1 k) : ∃ h2, s2_has h1 h2 M0 M1 (k + 1) ∧ am_Re GX3_start cX3_start (78, [some (.ref 69), some (.ref 5), some (.ref 64), some (.ref 57), some (.ref 60), some (.int (nI k))], [], h) (78, [some (.ref 69), some (.ref 5), some (.ref 64), some (.ref 57), some (.ref 60), some (.int (nI (k + 1)))], [], h2) := by
  obtain ⟨i1, i2, i3, i4⟩ := hI
  have q6 : ¬ 8 ≤ nI k := nIlt' (a := k) (b := 8) (by omega) hk
  have hy : ∀ z : am_S, am_ix (nI k) 8 z = z := fun z => am_ix_c (show k < 8 by omega) (by omega)
  have hcm := am_clp (show k < 8 by omega) (by omega)
  have k57 : am_kd 57 = (4, 3) := rfl
  have k60 : am_kd 60 = (4, 3) := rfl
  have r1 : am_gr 57 1 = 59 := rfl
  have r2 : am_gr 60 1 = 62 := rfl
  have k59 : am_kd 59 = (22, 8) := rfl
  have k62 : am_kd 62 = (22, 8) := rfl
  have key : ∀ b c : Int32, (b = 0 ∨ b = 1) → (c = 0 ∨ c = 1) → ((tkn M0 k → b = 1) ∧ (¬ tkn M0 k → b = 0)) → ((tkn M1 k → c = 1) ∧ (¬ tkn M1 k → c = 0)) → h.1 59 k = b → h.1 62 k = c → ∃ h2, s2_has h1 h2 M0 M1 (k + 1) ∧ am_Re GX3_start cX3_start (78, [some (.ref 69), some (.ref 5), some (.ref 64), some (.ref 57), some (.ref 60), some (.int (nI k))], [], h) (78, [some (.ref 69), some (.ref 5), some (.ref 64), some (.ref 57), some (.ref 60), some (.int (nI (k + 1)))], [], h2) := by
    intro b c ub uc wb wc eb ec
    have ec2 : (am_ui h 75 k b).1 62 k = c := by rw [← ec]; ((try simp only [am_ui_1, am_ui_2, true_and, and_true, and_self, if_true, reduceIte]); (repeat first | rw [if_neg (by omega)] | rw [if_pos (by omega)]); try rfl)
    refine ⟨am_ui (am_ui h 75 k b) 76 k c, ⟨i1, fun a c1 c2 => ?_, fun j hj => ?_, fun j hj => ?_⟩, ?_⟩
    · rw [← i2 a c1 c2]
      funext z
      ((try simp only [am_ui_1, am_ui_2, true_and, and_true, and_self, if_true, reduceIte]); (repeat first | rw [if_neg (by omega)] | rw [if_pos (by omega)]); try rfl)
    · have e : (am_ui (am_ui h 75 k b) 76 k c).1 75 j = if j = k then b else h.1 75 j := by
        by_cases e : j = k
        · subst e
          rw [if_pos rfl]
          ((try simp only [am_ui_1, am_ui_2, true_and, and_true, and_self, if_true, reduceIte]); (repeat first | rw [if_neg (by omega)] | rw [if_pos (by omega)]); try rfl)
        · rw [if_neg e]
          ((try simp only [am_ui_1, am_ui_2, true_and, and_true, and_self, if_true, reduceIte]); (repeat first | rw [if_neg (by omega)] | rw [if_pos (by omega)]); try rfl)
      rw [e]
      by_cases e : j = k
      · subst e
        rw [if_pos rfl]
        exact wb
      · rw [if_neg e]
        exact i3 j (by omega)
    · have e : (am_ui (am_ui h 75 k b) 76 k c).1 76 j = if j = k then c else h.1 76 j := by
        by_cases e : j = k
        · subst e
          rw [if_pos rfl]
          ((try simp only [am_ui_1, am_ui_2, true_and, and_true, and_self, if_true, reduceIte]); (repeat first | rw [if_neg (by omega)] | rw [if_pos (by omega)]); try rfl)
        · rw [if_neg e]
          ((try simp only [am_ui_1, am_ui_2, true_and, and_true, and_self, if_true, reduceIte]); (repeat first | rw [if_neg (by omega)] | rw [if_pos (by omega)]); try rfl)
      rw [e]
      by_cases e : j = k
      · subst e
        rw [if_pos rfl]
        exact wc
      · rw [if_neg e]
        exact i4 j (by omega)
    · refine am_Re_go (sp := [78]) 60 ?_
      simp only [am_go_s, am_bd_none, am_bd_rt, am_bd_nx, am_bd_ite, am_1i_c, am_2i_c, am_1l_c, am_2l_c, am_li_c, am_1r_c, am_ri_c, am_rii_c, am_ril_c, am_vi_c, am_vl_c, am_vr_c, am_ob_c, am_ob_n, am_ob_ite, am_kk_i, am_kk_r, am_kk_l, am_kk_n, am_ui_1, am_ui_2, am_ul_1, am_ul_2, am_b0, am_tl_s, am_tl_n, am_jp, am_ic, am_ct_n, am_ct_c, am_10, am_01, am_b1, am_nn, or_true, or_false, true_or, false_or, Int32.reduceLT, Int32.reduceLE, Int32.reduceAdd, Int32.reduceSub, not_true_eq_false, not_false_eq_true, Nat.reduceAdd, Int.reduceAdd, Int.reduceNeg, Int.reduceLE, Int.reduceSub, Int.reduceToNat, if_true, if_false, ite_true, ite_false, Bool.or_false, Bool.false_or, Bool.or_true, Bool.true_or, Nat.reduceBEq, Nat.reduceEqDiff, reduceIte, eq_self, false_and, and_false, true_and, and_true, Bool.false_eq_true, Bool.true_eq_false, reduceCtorEq, dX3_start_0, am_dx_aload_n_0, am_ld_0, dX3_start_1, am_dx_iconst_0, dX3_start_2, am_dx_putfield, dX3_start_5, dX3_start_6, am_dx_istore_5, am_set_5, am_ld_4, am_set_4, am_st1_5, am_lnl_5, dX3_start_8, am_dx_iload_5, am_ld_5, dX3_start_10, am_dx_aload_n_1, am_ld_1, dX3_start_11, am_dx_getfield, dX3_start_14, am_dx_if_icmp_ge, dX3_start_17, dX3_start_18, dX3_start_21, dX3_start_23, am_dx_aload_n_2, am_ld_2, dX3_start_24, dX3_start_25, dX3_start_28, dX3_start_30, am_dx_iaload, dX3_start_31, dX3_start_32, dX3_start_35, dX3_start_37, dX3_start_38, dX3_start_39, am_dx_invokevirtual, dX3_start_42, am_dx_lastore, dX3_start_43, dX3_start_44, dX3_start_47, dX3_start_49, dX3_start_50, dX3_start_51, dX3_start_54, dX3_start_56, dX3_start_57, dX3_start_58, dX3_start_61, dX3_start_63, dX3_start_64, am_dx_iconst_1, dX3_start_65, dX3_start_68, dX3_start_69, am_dx_iinc_5_1, dX3_start_72, am_dx_goto, dX3_start_75, dX3_start_76, dX3_start_78, dX3_start_80, am_dx_bipush_8, dX3_start_82, dX3_start_85, dX3_start_86, dX3_start_89, dX3_start_91, am_dx_aload_n_3, am_ld_3, dX3_start_92, dX3_start_95, dX3_start_97, am_dx_baload, dX3_start_98, am_dx_bastore, dX3_start_99, dX3_start_100, dX3_start_103, dX3_start_105, am_dx_aload_4, dX3_start_107, dX3_start_110, dX3_start_112, dX3_start_113, dX3_start_114, dX3_start_117, dX3_start_120, am_dx_return, lX3_start_21, am_fr_3_3, am_fw_3_3, lX3_start_39, am_fr_1_3, am_fw_1_3, lX3_start_25, am_fr_3_4, lX3_start_42, am_fr_1_0, lX3_start_45, am_fr_1_1, lX3_start_48, am_cV_3, am_l0, am_l1, am_l2, am_l3, am_l4, lX3_start_29, am_fr_3_5, lX3_start_32, am_fr_3_6, lX3_start_54, am_fr_4_1, lX3_start_36, am_fr_3_7, am_kd_69, am_gr_69_4, am_kd_73, am_gr_69_5, am_kd_74, am_gr_69_6, am_kd_75, am_gr_69_7, am_kd_76, q6, hy, hcm, k57, k60, r1, r2, k59, k62, eb, ec, ub, uc, nI_1p]
  have b0 := g0.2 k hk
  have b1 := g1.2 k hk
  have e59 : h.1 59 k = h1.1 59 k := by rw [i2 59 (by omega) (by omega)]
  have e62 : h.1 62 k = h1.1 62 k := by rw [i2 62 (by omega) (by omega)]
  by_cases c0 : tkn M0 k
  · have x0 : h.1 59 k = 1 := e59.trans (b0.1 c0)
    by_cases c1 : tkn M1 k
    · exact key 1 1 (Or.inr rfl) (Or.inr rfl) ⟨fun _ => rfl, fun c => absurd c0 c⟩ ⟨fun _ => rfl, fun c => absurd c1 c⟩ x0 (e62.trans (b1.1 c1))
    · exact key 1 0 (Or.inr rfl) (Or.inl rfl) ⟨fun _ => rfl, fun c => absurd c0 c⟩ ⟨fun c => absurd c c1, fun _ => rfl⟩ x0 (e62.trans (b1.2 c1))
  · have x0 : h.1 59 k = 0 := e59.trans (b0.2 c0)
    by_cases c1 : tkn M1 k
    · exact key 0 1 (Or.inl rfl) (Or.inr rfl) ⟨fun c => absurd c c0, fun _ => rfl⟩ ⟨fun _ => rfl, fun c => absurd c1 c⟩ x0 (e62.trans (b1.1 c1))
    · exact key 0 0 (Or.inl rfl) (Or.inl rfl) ⟨fun c => absurd c c0, fun _ => rfl⟩ ⟨fun c => absurd c c1, fun _ => rfl⟩ x0 (e62.trans (b1.2 c1))
