/-! word: bits of longs -/
theorem wb_tb (n : Nat) : (lN n).toBitVec = BitVec.ofNat 64 n := rfl
theorem wb_inj {a b : Int64} (h : a.toBitVec = b.toBitVec) : a = b := Int64.toBitVec_inj.mp h
theorem wb_c : ∀ k, k < 64 → ((nI k).toInt64 &&& 63) = lN k := by decide +kernel
theorem wb_sm : ∀ k, k < 64 → (BitVec.ofNat 64 k).smod 64 = BitVec.ofNat 64 k := by decide +kernel
theorem wb_lt2 {a b : Nat} (h : a < b) : 2 ^ a < 2 ^ b := Nat.pow_lt_pow_right (by decide) h
theorem wb_shl (n : Nat) {k : Nat} (hk : k < 64) : lN n <<< ((nI k).toInt64 &&& 63) = lN (n * 2 ^ k) := by
  rw [wb_c k hk]
  apply wb_inj
  rw [Int64.toBitVec_shiftLeft, wb_tb, wb_tb, wb_tb, wb_sm k hk]
  apply BitVec.eq_of_toNat_eq
  rw [BitVec.shiftLeft_eq', BitVec.toNat_shiftLeft, BitVec.toNat_ofNat, BitVec.toNat_ofNat, BitVec.toNat_ofNat, Nat.mod_eq_of_lt (show k < 2 ^ 64 by omega), Nat.shiftLeft_eq, Nat.mul_mod, Nat.mod_mod, ← Nat.mul_mod]
theorem wb_and {a b : Nat} (ha : a < 2 ^ 64) (hb : b < 2 ^ 64) : lN a &&& lN b = lN (a &&& b) := by
  apply wb_inj
  rw [Int64.toBitVec_and, wb_tb, wb_tb, wb_tb]
  apply BitVec.eq_of_toNat_eq
  rw [BitVec.toNat_and, BitVec.toNat_ofNat, BitVec.toNat_ofNat, BitVec.toNat_ofNat, Nat.mod_eq_of_lt ha, Nat.mod_eq_of_lt hb, Nat.mod_eq_of_lt (Nat.and_lt_two_pow _ hb)]
theorem wb_a1 {n : Nat} (hn : n < 2 ^ 64) : lN n &&& 1 = lN (n % 2) := by
  have h := wb_and (a := n) (b := 2 ^ 1 - 1) hn (by omega)
  rw [Nat.and_two_pow_sub_one_eq_mod] at h
  exact h
theorem pf_shr {a d : Nat} {D : Int64} (hD : (D.toBitVec.smod 64).toNat = d) (h : a < 2 ^ 62) : lN a >>> D = lN (a / 2 ^ d) := by
  have hd : a / 2 ^ d ≤ a := Nat.div_le_self _ _
  apply Int64.toInt_inj.mp
  have e : (lN a >>> D).toInt = (lN a).toInt >>> d := by
    rw [← hD]
    exact BitVec.toInt_sshiftRight ..
  rw [e, Int.shiftRight_eq_div_pow, pk_lT (by omega), pk_lT (by omega)]
  rfl
theorem wb_sr {a k : Nat} (hk : k < 64) (h : a < 2 ^ 62) : lN a >>> ((nI k).toInt64 &&& 63) = lN (a / 2 ^ k) := by
  refine pf_shr ?_ h
  rw [wb_c k hk, wb_tb, wb_sm k hk, BitVec.toNat_ofNat, Nat.mod_eq_of_lt (by omega)]
theorem lN_0 : lN 0 = 0 := rfl
theorem lN_z {a : Nat} (h : a < 2 ^ 62) : (lN a = 0) = (a = 0) := by rw [← lN_0, pk_lEQ (by omega) (by omega)]
/-- the highest bit of N is bit t -/
def hb_is (N t : Nat) : Prop := 2 ^ t ≤ N ∧ N < 2 ^ (t + 1) ∧ t < 32
theorem hb_div {N t : Nat} (h : hb_is N t) (b : Nat) : (N / 2 ^ b = 0) ↔ t < b := by
  obtain ⟨h1, h2, -⟩ := h
  rw [Nat.div_eq_zero_iff_lt (Nat.two_pow_pos b)]
  constructor
  · intro h
    exact Classical.byContradiction fun z => by
      have := Nat.pow_le_pow_right (n := 2) (by omega) (show b ≤ t by omega)
      omega
  · intro h
    have := Nat.pow_le_pow_right (n := 2) (by omega) (show t + 1 ≤ b by omega)
    omega
theorem hb_ex {N : Nat} (h0 : 1 ≤ N) (h1 : N ≤ 2147483648) : ∃ t, hb_is N t := by
  refine ⟨Nat.log2 N, ?_, ?_, ?_⟩
  · exact Nat.log2_self_le (by omega)
  · exact Nat.lt_log2_self
  · rw [Nat.log2_lt (by omega)]; omega
theorem hb_62 {N t : Nat} (h : hb_is N t) : N < 2 ^ 32 := by
  obtain ⟨-, h2, h3⟩ := h
  exact Nat.lt_of_lt_of_le h2 (Nat.pow_le_pow_right (by omega) (by omega))
theorem m_X8_highestBit (N t : Nat) (hb : hb_is N t) (h : am_H) : fX8_highestBit [.long (lN N)] h = some (some (.int (nI t)), h) := by
  have h62 := hb_62 hb
  have ht : t < 32 := hb.2.2
  refine am_run2 [some (.long (lN N)), none, none, none] rfl rfl rfl ?_
  have h0 : am_Re GX8_highestBit cX8_highestBit (0, [some (.long (lN N)), none, none, none], [], h) (4, [some (.long (lN N)), none, some (.int (nI (min t (1 - 1)))), some (.int (nI 1))], [], h) := by
    refine am_Re_go (sp := [4]) 60 ?_
    have e1 : nI 1 = 1 := rfl
    have e0 : nI (min t (1 - 1)) = 0 := by rw [show min t (1 - 1) = 0 by omega]; rfl
    simp only [am_go_s, am_bd_none, am_bd_rt, am_bd_nx, am_bd_ite, am_1i_c, am_2i_c, am_1l_c, am_2l_c, am_li_c, am_1r_c, am_ri_c, am_rii_c, am_ril_c, am_vi_c, am_vl_c, am_vr_c, am_ob_c, am_ob_n, am_ob_ite, am_kk_i, am_kk_r, am_kk_l, am_kk_n, am_ui_1, am_ui_2, am_ul_1, am_ul_2, am_b0, am_tl_s, am_tl_n, am_jp, am_ic, am_ct_n, am_ct_c, am_10, am_01, am_b1, am_nn, or_true, or_false, true_or, false_or, Int32.reduceLT, Int32.reduceLE, Int32.reduceAdd, Int32.reduceSub, not_true_eq_false, not_false_eq_true, Nat.reduceAdd, Int.reduceAdd, Int.reduceNeg, Int.reduceLE, Int.reduceSub, Int.reduceToNat, if_true, if_false, ite_true, ite_false, Bool.or_false, Bool.false_or, Bool.or_true, Bool.true_or, Nat.reduceBEq, Nat.reduceEqDiff, reduceIte, eq_self, false_and, and_false, true_and, and_true, Bool.false_eq_true, Bool.true_eq_false, reduceCtorEq, dX8_highestBit_0, am_dx_iconst_0, dX8_highestBit_1, am_dx_istore_n_2, am_set_2, am_ld_1, am_set_1, am_st1_2, am_lnl_2, dX8_highestBit_2, am_dx_iconst_1, dX8_highestBit_3, am_dx_istore_n_3, am_set_3, am_ld_2, am_st1_3, am_lnl_3, dX8_highestBit_4, am_dx_iload_n_3, am_ld_3, dX8_highestBit_5, am_dx_bipush_32, dX8_highestBit_7, am_dx_if_icmp_ge, dX8_highestBit_10, am_dx_lload_n_0, am_ld_0, dX8_highestBit_11, dX8_highestBit_12, am_dx_lshr, dX8_highestBit_13, am_dx_lconst_0, dX8_highestBit_14, am_dx_lcmp, dX8_highestBit_15, am_dx_ifCond_eq, dX8_highestBit_18, dX8_highestBit_19, dX8_highestBit_20, am_dx_iinc_3_1, dX8_highestBit_23, am_dx_goto, dX8_highestBit_26, am_dx_iload_n_2, dX8_highestBit_27, am_dx_ireturn, am_kd_0, e1, e0]
  refine h0 _ (am_loopA (fun b => (4, [some (.long (lN N)), none, some (.int (nI (min t (b - 1)))), some (.int (nI b))], [], h)) 1 32 (by omega) (fun b hb1 hb2 k => ?_) ?_)
  · have hge : ¬ 32 ≤ nI b := nI_ge (b := 32) hb2 (by omega)
    have hsr := wb_sr (a := N) (k := b) (by omega) (by omega)
    have hdl : N / 2 ^ b < 2 ^ 62 := Nat.lt_of_le_of_lt (Nat.div_le_self _ _) (by omega)
    have h1 := nI_1 b
    have eb : b + 1 - 1 = b := by omega
    rw [eb] at k
    by_cases hc : t < b
    · have hz : lN (N / 2 ^ b) = 0 := by rw [lN_z hdl]; exact (hb_div hb b).mpr hc
      have em : min t b = min t (b - 1) := by omega
      rw [em] at k
      refine am_Big_go (sp := [4]) 60 ?_ k
      simp only [am_go_s, am_bd_none, am_bd_rt, am_bd_nx, am_bd_ite, am_1i_c, am_2i_c, am_1l_c, am_2l_c, am_li_c, am_1r_c, am_ri_c, am_rii_c, am_ril_c, am_vi_c, am_vl_c, am_vr_c, am_ob_c, am_ob_n, am_ob_ite, am_kk_i, am_kk_r, am_kk_l, am_kk_n, am_ui_1, am_ui_2, am_ul_1, am_ul_2, am_b0, am_tl_s, am_tl_n, am_jp, am_ic, am_ct_n, am_ct_c, am_10, am_01, am_b1, am_nn, or_true, or_false, true_or, false_or, Int32.reduceLT, Int32.reduceLE, Int32.reduceAdd, Int32.reduceSub, not_true_eq_false, not_false_eq_true, Nat.reduceAdd, Int.reduceAdd, Int.reduceNeg, Int.reduceLE, Int.reduceSub, Int.reduceToNat, if_true, if_false, ite_true, ite_false, Bool.or_false, Bool.false_or, Bool.or_true, Bool.true_or, Nat.reduceBEq, Nat.reduceEqDiff, reduceIte, eq_self, false_and, and_false, true_and, and_true, Bool.false_eq_true, Bool.true_eq_false, reduceCtorEq, dX8_highestBit_0, am_dx_iconst_0, dX8_highestBit_1, am_dx_istore_n_2, am_set_2, am_ld_1, am_set_1, am_st1_2, am_lnl_2, dX8_highestBit_2, am_dx_iconst_1, dX8_highestBit_3, am_dx_istore_n_3, am_set_3, am_ld_2, am_st1_3, am_lnl_3, dX8_highestBit_4, am_dx_iload_n_3, am_ld_3, dX8_highestBit_5, am_dx_bipush_32, dX8_highestBit_7, am_dx_if_icmp_ge, dX8_highestBit_10, am_dx_lload_n_0, am_ld_0, dX8_highestBit_11, dX8_highestBit_12, am_dx_lshr, dX8_highestBit_13, am_dx_lconst_0, dX8_highestBit_14, am_dx_lcmp, dX8_highestBit_15, am_dx_ifCond_eq, dX8_highestBit_18, dX8_highestBit_19, dX8_highestBit_20, am_dx_iinc_3_1, dX8_highestBit_23, am_dx_goto, dX8_highestBit_26, am_dx_iload_n_2, dX8_highestBit_27, am_dx_ireturn, am_kd_0, hge, hsr, am_lc_eq0, hz, h1]
    · have hz : ¬ lN (N / 2 ^ b) = 0 := by rw [lN_z hdl]; exact fun z => hc ((hb_div hb b).mp z)
      have em : min t b = b := by omega
      rw [em] at k
      refine am_Big_go (sp := [4]) 60 ?_ k
      simp only [am_go_s, am_bd_none, am_bd_rt, am_bd_nx, am_bd_ite, am_1i_c, am_2i_c, am_1l_c, am_2l_c, am_li_c, am_1r_c, am_ri_c, am_rii_c, am_ril_c, am_vi_c, am_vl_c, am_vr_c, am_ob_c, am_ob_n, am_ob_ite, am_kk_i, am_kk_r, am_kk_l, am_kk_n, am_ui_1, am_ui_2, am_ul_1, am_ul_2, am_b0, am_tl_s, am_tl_n, am_jp, am_ic, am_ct_n, am_ct_c, am_10, am_01, am_b1, am_nn, or_true, or_false, true_or, false_or, Int32.reduceLT, Int32.reduceLE, Int32.reduceAdd, Int32.reduceSub, not_true_eq_false, not_false_eq_true, Nat.reduceAdd, Int.reduceAdd, Int.reduceNeg, Int.reduceLE, Int.reduceSub, Int.reduceToNat, if_true, if_false, ite_true, ite_false, Bool.or_false, Bool.false_or, Bool.or_true, Bool.true_or, Nat.reduceBEq, Nat.reduceEqDiff, reduceIte, eq_self, false_and, and_false, true_and, and_true, Bool.false_eq_true, Bool.true_eq_false, reduceCtorEq, dX8_highestBit_0, am_dx_iconst_0, dX8_highestBit_1, am_dx_istore_n_2, am_set_2, am_ld_1, am_set_1, am_st1_2, am_lnl_2, dX8_highestBit_2, am_dx_iconst_1, dX8_highestBit_3, am_dx_istore_n_3, am_set_3, am_ld_2, am_st1_3, am_lnl_3, dX8_highestBit_4, am_dx_iload_n_3, am_ld_3, dX8_highestBit_5, am_dx_bipush_32, dX8_highestBit_7, am_dx_if_icmp_ge, dX8_highestBit_10, am_dx_lload_n_0, am_ld_0, dX8_highestBit_11, dX8_highestBit_12, am_dx_lshr, dX8_highestBit_13, am_dx_lconst_0, dX8_highestBit_14, am_dx_lcmp, dX8_highestBit_15, am_dx_ifCond_eq, dX8_highestBit_18, dX8_highestBit_19, dX8_highestBit_20, am_dx_iinc_3_1, dX8_highestBit_23, am_dx_goto, dX8_highestBit_26, am_dx_iload_n_2, dX8_highestBit_27, am_dx_ireturn, am_kd_0, hge, hsr, am_lc_eq0, hz, h1]
  · have hle : 32 ≤ nI 32 := by decide
    have em : min t (32 - 1) = t := by omega
    rw [em]
    refine am_Big_end (sp := [4]) 60 ?_
    simp only [am_go_s, am_bd_none, am_bd_rt, am_bd_nx, am_bd_ite, am_1i_c, am_2i_c, am_1l_c, am_2l_c, am_li_c, am_1r_c, am_ri_c, am_rii_c, am_ril_c, am_vi_c, am_vl_c, am_vr_c, am_ob_c, am_ob_n, am_ob_ite, am_kk_i, am_kk_r, am_kk_l, am_kk_n, am_ui_1, am_ui_2, am_ul_1, am_ul_2, am_b0, am_tl_s, am_tl_n, am_jp, am_ic, am_ct_n, am_ct_c, am_10, am_01, am_b1, am_nn, or_true, or_false, true_or, false_or, Int32.reduceLT, Int32.reduceLE, Int32.reduceAdd, Int32.reduceSub, not_true_eq_false, not_false_eq_true, Nat.reduceAdd, Int.reduceAdd, Int.reduceNeg, Int.reduceLE, Int.reduceSub, Int.reduceToNat, if_true, if_false, ite_true, ite_false, Bool.or_false, Bool.false_or, Bool.or_true, Bool.true_or, Nat.reduceBEq, Nat.reduceEqDiff, reduceIte, eq_self, false_and, and_false, true_and, and_true, Bool.false_eq_true, Bool.true_eq_false, reduceCtorEq, dX8_highestBit_0, am_dx_iconst_0, dX8_highestBit_1, am_dx_istore_n_2, am_set_2, am_ld_1, am_set_1, am_st1_2, am_lnl_2, dX8_highestBit_2, am_dx_iconst_1, dX8_highestBit_3, am_dx_istore_n_3, am_set_3, am_ld_2, am_st1_3, am_lnl_3, dX8_highestBit_4, am_dx_iload_n_3, am_ld_3, dX8_highestBit_5, am_dx_bipush_32, dX8_highestBit_7, am_dx_if_icmp_ge, dX8_highestBit_10, am_dx_lload_n_0, am_ld_0, dX8_highestBit_11, dX8_highestBit_12, am_dx_lshr, dX8_highestBit_13, am_dx_lconst_0, dX8_highestBit_14, am_dx_lcmp, dX8_highestBit_15, am_dx_ifCond_eq, dX8_highestBit_18, dX8_highestBit_19, dX8_highestBit_20, am_dx_iinc_3_1, dX8_highestBit_23, am_dx_goto, dX8_highestBit_26, am_dx_iload_n_2, dX8_highestBit_27, am_dx_ireturn, am_kd_0, hle]
/-- rounded to the nearest, of two the even one -/
def nr_up (N b : Nat) : Nat := if 2 ^ (b - 1) < N % 2 ^ b then N / 2 ^ b + 1 else if N % 2 ^ b = 2 ^ (b - 1) ∧ N / 2 ^ b % 2 = 1 then N / 2 ^ b + 1 else N / 2 ^ b
theorem nr_rest (N b : Nat) : N - N / 2 ^ b * 2 ^ b = N % 2 ^ b := by
  have := Nat.div_add_mod N (2 ^ b)
  rw [Nat.mul_comm] at this
  omega
theorem m_X8_nearestUpper (N b : Nat) (hN : N < 2 ^ 32) (hb1 : 1 ≤ b) (hb2 : b ≤ 8) (h : am_H) : fX8_nearestUpper [.long (lN N), .int (nI b)] h = some (some (.long (lN (nr_up N b))), h) := by
  have hsr := wb_sr (a := N) (k := b) (by omega) (by omega)
  have hdl : N / 2 ^ b ≤ N := Nat.div_le_self _ _
  have hsl := wb_shl (N / 2 ^ b) (k := b) (by omega)
  have hml : N / 2 ^ b * 2 ^ b ≤ N := Nat.div_mul_le_self _ _
  have hsb := lN_sub hml
  rw [nr_rest] at hsb
  have e1 : nI b - 1 = nI (b - 1) := by rw [← pk_sub hb1]; rfl
  have hh : (1 : Int64) <<< ((nI (b - 1)).toInt64 &&& 63) = lN (2 ^ (b - 1)) := by
    have := wb_shl 1 (k := b - 1) (by omega)
    rw [Nat.one_mul] at this
    exact this
  have hpb : 2 ^ (b - 1) ≤ 2 ^ 8 := Nat.pow_le_pow_right (by omega) (by omega)
  have hrl : N % 2 ^ b ≤ N := Nat.mod_le _ _
  have cg : (lN (2 ^ (b - 1)) < lN (N % 2 ^ b)) = (2 ^ (b - 1) < N % 2 ^ b) := propext (pk_lLT (by omega) (by omega))
  have ce : (lN (N % 2 ^ b) = lN (2 ^ (b - 1))) = (N % 2 ^ b = 2 ^ (b - 1)) := propext (pk_lEQ (by omega) (by omega))
  have ca := wb_a1 (n := N / 2 ^ b) (by omega)
  have cb : (lN (N / 2 ^ b % 2) = 1) = (N / 2 ^ b % 2 = 1) := propext (pk_lEQ (a := N / 2 ^ b % 2) (b := 1) (by omega) (by omega))
  have cp : lN (N / 2 ^ b) + 1 = lN (N / 2 ^ b + 1) := lN_1 _
  refine am_run1 80 [some (.long (lN N)), none, some (.int (nI b)), none, none, none, none, none, none, none] rfl rfl rfl ?_
  unfold nr_up
  by_cases f1 : 2 ^ (b - 1) < N % 2 ^ b
  · simp only [am_go_s, am_bd_none, am_bd_rt, am_bd_nx, am_bd_ite, am_1i_c, am_2i_c, am_1l_c, am_2l_c, am_li_c, am_1r_c, am_ri_c, am_rii_c, am_ril_c, am_vi_c, am_vl_c, am_vr_c, am_ob_c, am_ob_n, am_ob_ite, am_kk_i, am_kk_r, am_kk_l, am_kk_n, am_ui_1, am_ui_2, am_ul_1, am_ul_2, am_b0, am_tl_s, am_tl_n, am_jp, am_ic, am_ct_n, am_ct_c, am_10, am_01, am_b1, am_nn, or_true, or_false, true_or, false_or, Int32.reduceLT, Int32.reduceLE, Int32.reduceAdd, Int32.reduceSub, not_true_eq_false, not_false_eq_true, Nat.reduceAdd, Int.reduceAdd, Int.reduceNeg, Int.reduceLE, Int.reduceSub, Int.reduceToNat, if_true, if_false, ite_true, ite_false, Bool.or_false, Bool.false_or, Bool.or_true, Bool.true_or, Nat.reduceBEq, Nat.reduceEqDiff, reduceIte, eq_self, false_and, and_false, true_and, and_true, Bool.false_eq_true, Bool.true_eq_false, reduceCtorEq, dX8_nearestUpper_0, am_dx_lload_n_0, am_ld_0, dX8_nearestUpper_1, am_dx_iload_n_2, am_ld_2, dX8_nearestUpper_2, am_dx_lshr, dX8_nearestUpper_3, am_dx_lstore_n_3, am_set_3, am_set_2, am_st2_3, am_lnl_4, am_set_4, dX8_nearestUpper_4, dX8_nearestUpper_5, am_dx_lload_n_3, am_ld_3, dX8_nearestUpper_6, dX8_nearestUpper_7, am_dx_lshl, dX8_nearestUpper_8, am_dx_lsub, dX8_nearestUpper_9, am_dx_lstore_5, am_set_5, am_ld_4, am_st2_5, am_lnl_6, am_set_6, dX8_nearestUpper_11, am_dx_lconst_1, dX8_nearestUpper_12, dX8_nearestUpper_13, am_dx_iconst_1, dX8_nearestUpper_14, am_dx_isub, dX8_nearestUpper_15, dX8_nearestUpper_16, am_dx_lstore_7, am_set_7, am_ld_6, am_st2_7, am_lnl_8, am_set_8, dX8_nearestUpper_18, am_dx_lload_5, am_ld_5, dX8_nearestUpper_20, am_dx_lload_7, am_ld_7, dX8_nearestUpper_22, am_dx_lcmp, dX8_nearestUpper_23, am_dx_ifCond_gt, dX8_nearestUpper_26, dX8_nearestUpper_28, dX8_nearestUpper_30, dX8_nearestUpper_31, am_dx_ifCond_ne, dX8_nearestUpper_34, dX8_nearestUpper_35, dX8_nearestUpper_36, am_dx_land, dX8_nearestUpper_37, dX8_nearestUpper_38, dX8_nearestUpper_39, dX8_nearestUpper_42, dX8_nearestUpper_43, am_dx_goto, dX8_nearestUpper_46, am_dx_iconst_0, dX8_nearestUpper_47, am_dx_istore_9, am_set_9, am_ld_8, am_st1_9, am_lnl_9, dX8_nearestUpper_49, am_dx_iload_9, am_ld_9, dX8_nearestUpper_51, am_dx_ifCond_eq, dX8_nearestUpper_54, dX8_nearestUpper_55, dX8_nearestUpper_56, am_dx_ladd, dX8_nearestUpper_57, dX8_nearestUpper_60, dX8_nearestUpper_61, am_dx_lreturn, am_kd_0, hsr, hsl, hsb, e1, hh, am_lc_gt0, am_lc_eq0, cg, ce, ca, cb, cp, f1]
  · by_cases f2 : N % 2 ^ b = 2 ^ (b - 1)
    · have f1b : ¬ 2 ^ (b - 1) < 2 ^ (b - 1) := Nat.lt_irrefl _
      rw [f2] at hsb
      have cg2 : (lN (2 ^ (b - 1)) < lN (2 ^ (b - 1))) = False := by simp [Int64.lt_irrefl]
      have l11 : (lN 1 = 1) = True := eq_true rfl
      by_cases f3 : N / 2 ^ b % 2 = 1
      · simp only [am_go_s, am_bd_none, am_bd_rt, am_bd_nx, am_bd_ite, am_1i_c, am_2i_c, am_1l_c, am_2l_c, am_li_c, am_1r_c, am_ri_c, am_rii_c, am_ril_c, am_vi_c, am_vl_c, am_vr_c, am_ob_c, am_ob_n, am_ob_ite, am_kk_i, am_kk_r, am_kk_l, am_kk_n, am_ui_1, am_ui_2, am_ul_1, am_ul_2, am_b0, am_tl_s, am_tl_n, am_jp, am_ic, am_ct_n, am_ct_c, am_10, am_01, am_b1, am_nn, or_true, or_false, true_or, false_or, Int32.reduceLT, Int32.reduceLE, Int32.reduceAdd, Int32.reduceSub, not_true_eq_false, not_false_eq_true, Nat.reduceAdd, Int.reduceAdd, Int.reduceNeg, Int.reduceLE, Int.reduceSub, Int.reduceToNat, if_true, if_false, ite_true, ite_false, Bool.or_false, Bool.false_or, Bool.or_true, Bool.true_or, Nat.reduceBEq, Nat.reduceEqDiff, reduceIte, eq_self, false_and, and_false, true_and, and_true, Bool.false_eq_true, Bool.true_eq_false, reduceCtorEq, dX8_nearestUpper_0, am_dx_lload_n_0, am_ld_0, dX8_nearestUpper_1, am_dx_iload_n_2, am_ld_2, dX8_nearestUpper_2, am_dx_lshr, dX8_nearestUpper_3, am_dx_lstore_n_3, am_set_3, am_set_2, am_st2_3, am_lnl_4, am_set_4, dX8_nearestUpper_4, dX8_nearestUpper_5, am_dx_lload_n_3, am_ld_3, dX8_nearestUpper_6, dX8_nearestUpper_7, am_dx_lshl, dX8_nearestUpper_8, am_dx_lsub, dX8_nearestUpper_9, am_dx_lstore_5, am_set_5, am_ld_4, am_st2_5, am_lnl_6, am_set_6, dX8_nearestUpper_11, am_dx_lconst_1, dX8_nearestUpper_12, dX8_nearestUpper_13, am_dx_iconst_1, dX8_nearestUpper_14, am_dx_isub, dX8_nearestUpper_15, dX8_nearestUpper_16, am_dx_lstore_7, am_set_7, am_ld_6, am_st2_7, am_lnl_8, am_set_8, dX8_nearestUpper_18, am_dx_lload_5, am_ld_5, dX8_nearestUpper_20, am_dx_lload_7, am_ld_7, dX8_nearestUpper_22, am_dx_lcmp, dX8_nearestUpper_23, am_dx_ifCond_gt, dX8_nearestUpper_26, dX8_nearestUpper_28, dX8_nearestUpper_30, dX8_nearestUpper_31, am_dx_ifCond_ne, dX8_nearestUpper_34, dX8_nearestUpper_35, dX8_nearestUpper_36, am_dx_land, dX8_nearestUpper_37, dX8_nearestUpper_38, dX8_nearestUpper_39, dX8_nearestUpper_42, dX8_nearestUpper_43, am_dx_goto, dX8_nearestUpper_46, am_dx_iconst_0, dX8_nearestUpper_47, am_dx_istore_9, am_set_9, am_ld_8, am_st1_9, am_lnl_9, dX8_nearestUpper_49, am_dx_iload_9, am_ld_9, dX8_nearestUpper_51, am_dx_ifCond_eq, dX8_nearestUpper_54, dX8_nearestUpper_55, dX8_nearestUpper_56, am_dx_ladd, dX8_nearestUpper_57, dX8_nearestUpper_60, dX8_nearestUpper_61, am_dx_lreturn, am_kd_0, l11, hsr, hsl, hsb, e1, hh, am_lc_gt0, am_lc_eq0, cg2, ca, cb, cp, f2, f3, f1b]
      · simp only [am_go_s, am_bd_none, am_bd_rt, am_bd_nx, am_bd_ite, am_1i_c, am_2i_c, am_1l_c, am_2l_c, am_li_c, am_1r_c, am_ri_c, am_rii_c, am_ril_c, am_vi_c, am_vl_c, am_vr_c, am_ob_c, am_ob_n, am_ob_ite, am_kk_i, am_kk_r, am_kk_l, am_kk_n, am_ui_1, am_ui_2, am_ul_1, am_ul_2, am_b0, am_tl_s, am_tl_n, am_jp, am_ic, am_ct_n, am_ct_c, am_10, am_01, am_b1, am_nn, or_true, or_false, true_or, false_or, Int32.reduceLT, Int32.reduceLE, Int32.reduceAdd, Int32.reduceSub, not_true_eq_false, not_false_eq_true, Nat.reduceAdd, Int.reduceAdd, Int.reduceNeg, Int.reduceLE, Int.reduceSub, Int.reduceToNat, if_true, if_false, ite_true, ite_false, Bool.or_false, Bool.false_or, Bool.or_true, Bool.true_or, Nat.reduceBEq, Nat.reduceEqDiff, reduceIte, eq_self, false_and, and_false, true_and, and_true, Bool.false_eq_true, Bool.true_eq_false, reduceCtorEq, dX8_nearestUpper_0, am_dx_lload_n_0, am_ld_0, dX8_nearestUpper_1, am_dx_iload_n_2, am_ld_2, dX8_nearestUpper_2, am_dx_lshr, dX8_nearestUpper_3, am_dx_lstore_n_3, am_set_3, am_set_2, am_st2_3, am_lnl_4, am_set_4, dX8_nearestUpper_4, dX8_nearestUpper_5, am_dx_lload_n_3, am_ld_3, dX8_nearestUpper_6, dX8_nearestUpper_7, am_dx_lshl, dX8_nearestUpper_8, am_dx_lsub, dX8_nearestUpper_9, am_dx_lstore_5, am_set_5, am_ld_4, am_st2_5, am_lnl_6, am_set_6, dX8_nearestUpper_11, am_dx_lconst_1, dX8_nearestUpper_12, dX8_nearestUpper_13, am_dx_iconst_1, dX8_nearestUpper_14, am_dx_isub, dX8_nearestUpper_15, dX8_nearestUpper_16, am_dx_lstore_7, am_set_7, am_ld_6, am_st2_7, am_lnl_8, am_set_8, dX8_nearestUpper_18, am_dx_lload_5, am_ld_5, dX8_nearestUpper_20, am_dx_lload_7, am_ld_7, dX8_nearestUpper_22, am_dx_lcmp, dX8_nearestUpper_23, am_dx_ifCond_gt, dX8_nearestUpper_26, dX8_nearestUpper_28, dX8_nearestUpper_30, dX8_nearestUpper_31, am_dx_ifCond_ne, dX8_nearestUpper_34, dX8_nearestUpper_35, dX8_nearestUpper_36, am_dx_land, dX8_nearestUpper_37, dX8_nearestUpper_38, dX8_nearestUpper_39, dX8_nearestUpper_42, dX8_nearestUpper_43, am_dx_goto, dX8_nearestUpper_46, am_dx_iconst_0, dX8_nearestUpper_47, am_dx_istore_9, am_set_9, am_ld_8, am_st1_9, am_lnl_9, dX8_nearestUpper_49, am_dx_iload_9, am_ld_9, dX8_nearestUpper_51, am_dx_ifCond_eq, dX8_nearestUpper_54, dX8_nearestUpper_55, dX8_nearestUpper_56, am_dx_ladd, dX8_nearestUpper_57, dX8_nearestUpper_60, dX8_nearestUpper_61, am_dx_lreturn, am_kd_0, hsr, hsl, hsb, e1, hh, am_lc_gt0, am_lc_eq0, cg2, ca, cb, cp, f2, f3, f1b]
    · simp only [am_go_s, am_bd_none, am_bd_rt, am_bd_nx, am_bd_ite, am_1i_c, am_2i_c, am_1l_c, am_2l_c, am_li_c, am_1r_c, am_ri_c, am_rii_c, am_ril_c, am_vi_c, am_vl_c, am_vr_c, am_ob_c, am_ob_n, am_ob_ite, am_kk_i, am_kk_r, am_kk_l, am_kk_n, am_ui_1, am_ui_2, am_ul_1, am_ul_2, am_b0, am_tl_s, am_tl_n, am_jp, am_ic, am_ct_n, am_ct_c, am_10, am_01, am_b1, am_nn, or_true, or_false, true_or, false_or, Int32.reduceLT, Int32.reduceLE, Int32.reduceAdd, Int32.reduceSub, not_true_eq_false, not_false_eq_true, Nat.reduceAdd, Int.reduceAdd, Int.reduceNeg, Int.reduceLE, Int.reduceSub, Int.reduceToNat, if_true, if_false, ite_true, ite_false, Bool.or_false, Bool.false_or, Bool.or_true, Bool.true_or, Nat.reduceBEq, Nat.reduceEqDiff, reduceIte, eq_self, false_and, and_false, true_and, and_true, Bool.false_eq_true, Bool.true_eq_false, reduceCtorEq, dX8_nearestUpper_0, am_dx_lload_n_0, am_ld_0, dX8_nearestUpper_1, am_dx_iload_n_2, am_ld_2, dX8_nearestUpper_2, am_dx_lshr, dX8_nearestUpper_3, am_dx_lstore_n_3, am_set_3, am_set_2, am_st2_3, am_lnl_4, am_set_4, dX8_nearestUpper_4, dX8_nearestUpper_5, am_dx_lload_n_3, am_ld_3, dX8_nearestUpper_6, dX8_nearestUpper_7, am_dx_lshl, dX8_nearestUpper_8, am_dx_lsub, dX8_nearestUpper_9, am_dx_lstore_5, am_set_5, am_ld_4, am_st2_5, am_lnl_6, am_set_6, dX8_nearestUpper_11, am_dx_lconst_1, dX8_nearestUpper_12, dX8_nearestUpper_13, am_dx_iconst_1, dX8_nearestUpper_14, am_dx_isub, dX8_nearestUpper_15, dX8_nearestUpper_16, am_dx_lstore_7, am_set_7, am_ld_6, am_st2_7, am_lnl_8, am_set_8, dX8_nearestUpper_18, am_dx_lload_5, am_ld_5, dX8_nearestUpper_20, am_dx_lload_7, am_ld_7, dX8_nearestUpper_22, am_dx_lcmp, dX8_nearestUpper_23, am_dx_ifCond_gt, dX8_nearestUpper_26, dX8_nearestUpper_28, dX8_nearestUpper_30, dX8_nearestUpper_31, am_dx_ifCond_ne, dX8_nearestUpper_34, dX8_nearestUpper_35, dX8_nearestUpper_36, am_dx_land, dX8_nearestUpper_37, dX8_nearestUpper_38, dX8_nearestUpper_39, dX8_nearestUpper_42, dX8_nearestUpper_43, am_dx_goto, dX8_nearestUpper_46, am_dx_iconst_0, dX8_nearestUpper_47, am_dx_istore_9, am_set_9, am_ld_8, am_st1_9, am_lnl_9, dX8_nearestUpper_49, am_dx_iload_9, am_ld_9, dX8_nearestUpper_51, am_dx_ifCond_eq, dX8_nearestUpper_54, dX8_nearestUpper_55, dX8_nearestUpper_56, am_dx_ladd, dX8_nearestUpper_57, dX8_nearestUpper_60, dX8_nearestUpper_61, am_dx_lreturn, am_kd_0, hsr, hsl, hsb, e1, hh, am_lc_gt0, am_lc_eq0, cg, ce, ca, cb, cp, f1, f2]
