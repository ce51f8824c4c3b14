/-! number, light: both alike -/
theorem i32_s1 (a b : Int32) : a - 127 - 23 + b = a + b - 150 := by grind
theorem i32_s2 (a b : Int32) : a - 150 + b = a + b - 150 := by grind
theorem i32_sh : ∀ n, n < 32 → ((nI n &&& 31).toBitVec.smod 32).toNat = n := by decide
theorem wS_int {d : Nat} (hd : d < 1000) : (nI d - 150).toInt = (d : Int) - 150 := by
  have : nI d - nI 150 = nI d - 150 := rfl
  rw [← this, pk_sub_toInt (by omega) (by omega)]
  rfl
theorem wS_7 {d : Nat} (hd : d < 1000) : (7 < nI d - 150) ↔ 157 < d := by
  rw [Int32.lt_iff_toInt_lt, wS_int hd]
  show (7 : Int) < _ ↔ _
  omega
theorem wS_23 {d : Nat} (hd : d < 1000) : (nI d - 150 < -23) ↔ d < 127 := by
  rw [Int32.lt_iff_toInt_lt, wS_int hd]
  show _ < (-23 : Int) ↔ _
  omega
theorem wS_24 {d : Nat} (hd : d < 1000) : (nI d - 150 < -24) ↔ d < 126 := by
  rw [Int32.lt_iff_toInt_lt, wS_int hd]
  show _ < (-24 : Int) ↔ _
  omega
theorem wS_0 {d : Nat} (hd : d < 1000) : (nI d - 150 < 0) ↔ d < 150 := by
  rw [Int32.lt_iff_toInt_lt, wS_int hd]
  show _ < (0 : Int) ↔ _
  omega
theorem wS_neg {d : Nat} (hd : d < 150) : -(nI d - 150) = nI (150 - d) := by
  rw [← pk_sub (by omega : d ≤ 150)]
  show -(nI d - 150) = 150 - nI d
  grind
theorem wS_pos {d : Nat} (hd : 150 ≤ d) : nI d - 150 = nI (d - 150) := by
  rw [← pk_sub hd]
  rfl
theorem wU {m : Nat} (hm : m < 8388608) : nI m ||| 8388608 = nI (8388608 + m) := by
  apply Int32.toBitVec_inj.mp
  apply BitVec.eq_of_toNat_eq
  have e := Nat.two_pow_add_eq_or_of_lt (i := 23) (b := m) hm 1
  rw [Int32.toBitVec_or, BitVec.toNat_or, pk_tn (by omega)]
  show m ||| 8388608 = _
  rw [pk_tn (by omega : 8388608 + m < 2 ^ 32), Nat.or_comm]
  exact e.symm
theorem wU2 (m : Nat) : 8388608 + nI m = nI (8388608 + m) := by
  rw [← nI_add]; rfl
/-- the same number, where it is within -/
theorem wZ {m d : Nat} (hm : m < 8388608) (h1 : ¬ 157 < d) (h2 : ¬ d < 127) : ∃ z : Nat, z < 2147483648 ∧ cwz (nI m) (nI d - 150) = nI z ∧ mwz (nI m) (nI d - 150) = nI z := by
  by_cases h0 : d < 150
  · refine ⟨(8388608 + m) / 2 ^ (150 - d), ?_, ?_, ?_⟩
    · exact Nat.lt_of_le_of_lt (Nat.div_le_self _ _) (by omega)
    · rw [cwz, if_pos ((wS_0 (by omega)).mpr h0), wU hm, wS_neg h0]
      exact pk_shrN (by omega) _ _ (i32_sh _ (by omega))
    · rw [mwz, if_pos ((wS_0 (by omega)).mpr h0), if_neg (fun z => by have := (wS_24 (by omega)).mp z; omega), wU2, wS_neg h0]
      exact pk_shrN (by omega) _ _ (i32_sh _ (by omega))
  · have hk : d - 150 ≤ 7 := by omega
    have hb : (8388608 + m) * 2 ^ (d - 150) < 2147483648 := by
      have : 2 ^ (d - 150) ≤ 2 ^ 7 := Nat.pow_le_pow_right (by omega) hk
      calc (8388608 + m) * 2 ^ (d - 150) ≤ (8388608 + m) * 2 ^ 7 := Nat.mul_le_mul_left _ this
        _ < 2147483648 := by omega
    refine ⟨(8388608 + m) * 2 ^ (d - 150), hb, ?_, ?_⟩
    · rw [cwz, if_neg (fun z => h0 ((wS_0 (by omega)).mp z)), wU hm, wS_pos (by omega)]
      exact pk_shlN _ _ (i32_sh _ (by omega)) (by omega)
    · rw [mwz, if_neg (fun z => h0 ((wS_0 (by omega)).mp z)), wU2, wS_pos (by omega)]
      exact pk_shlN _ _ (i32_sh _ (by omega)) (by omega)
/-- below a whole number -/
theorem wZ0 {m d : Nat} (hm : m < 8388608) (h2 : d < 127) : mwz (nI m) (nI d - 150) = 0 := by
  rw [mwz, if_pos ((wS_0 (by omega)).mpr (by omega))]
  by_cases h3 : d < 126
  · rw [if_pos ((wS_24 (by omega)).mpr h3)]
  · rw [if_neg (fun z => h3 ((wS_24 (by omega)).mp z)), wU2, wS_neg (by omega)]
    have := pk_shrN (n := 8388608 + m) (by omega) (nI (150 - d) &&& 31) (150 - d) (i32_sh _ (by omega))
    rw [this, show 150 - d = 24 by omega, Nat.div_eq_of_lt (by omega)]
    rfl
theorem i32_max (z : Int32) : (if z < 2147483647 then z else 2147483647) = z := by
  by_cases h : z < 2147483647
  · rw [if_pos h]
  · rw [if_neg h]
    apply Int32.toInt_inj.mp
    have h1 := Int32.le_iff_toInt_le.mp (Int32.not_lt.mp h)
    have h2 : z.toInt < 2147483648 := Int32.toInt_lt z
    have h3 : (2147483647 : Int32).toInt = 2147483647 := by decide
    rw [h3] at h1 ⊢
    omega
/-- what the reference answers for a word's number -/
def nbf (w : Int32) : Int32 := if wx w = 255 ∧ ¬ wm w = 0 then 0 else if 158 ≤ wx w then (if w < 0 then -2147483648 else 2147483647) else if w < 0 then -mwf w 0 2147483647 else mwf w 0 2147483647
theorem nb_eq (w : Int32) : cwf w 0 = nbf w := by
  obtain ⟨e, he, ex⟩ := wx_nat w
  obtain ⟨m, hm, em⟩ := wm_nat w
  unfold cwf nbf
  by_cases e1 : wx w = 255 ∧ ¬ wm w = 0
  · rw [if_pos e1, if_pos e1]
  rw [if_neg e1, if_neg e1]
  have eS : wx w - 127 - 23 + 0 = nI e - 150 := by rw [i32_s1, ex, Int32.add_zero]
  have eT : wx w - 150 + 0 = nI e - 150 := by rw [ex, Int32.add_zero]
  rw [eS]
  have h158 : (158 ≤ wx w) ↔ 157 < e := by
    rw [ex, show (158 : Int32) = nI 158 from rfl, nI_leI (by omega) (by omega)]
    omega
  by_cases e0 : wx w = 0
  · have e00 : e = 0 := (nI_eq (b := 0) (by omega) (by omega)).mp (ex.symm.trans e0)
    rw [if_pos e0, if_neg (fun z => by have := h158.mp z; omega)]
    have r : mwf w 0 2147483647 = 0 := by rw [mwf, if_pos e0]
    rw [r]
    split <;> rfl
  rw [if_neg e0]
  by_cases f1 : 157 < e
  · rw [if_pos ((wS_7 (by omega)).mpr f1), if_pos (h158.mpr f1)]
  · rw [if_neg (fun z => f1 ((wS_7 (by omega)).mp z)), if_neg (fun z => f1 (h158.mp z))]
    have ne255 : ¬ (wx w = 255 ∨ 7 < nI e - 150) := by
      rintro (z | z)
      · have : e = 255 := (nI_eq (b := 255) (by omega) (by omega)).mp (ex.symm.trans z)
        omega
      · exact f1 ((wS_7 (by omega)).mp z)
    have r : mwf w 0 2147483647 = mwz (nI m) (nI e - 150) := by rw [mwf, if_neg e0, eT, if_neg ne255, em, i32_max]
    rw [r, em]
    by_cases f2 : e < 127
    · rw [if_pos ((wS_23 (by omega)).mpr f2), wZ0 hm f2]
      split <;> rfl
    · rw [if_neg (fun z => f2 ((wS_23 (by omega)).mp z))]
      obtain ⟨z, -, z1, z2⟩ := wZ hm f1 f2
      rw [z1, z2]
/-- light of a word -/
def lbf (w : Int32) : Int32 := if (wx w = 255 ∧ ¬ wm w = 0) ∨ w < 0 then 0 else mwf w 2 255
theorem lb_eq (w : Int32) : (if (0 : Int32) < (if cwf w 2 < 255 then cwf w 2 else 255) then (if cwf w 2 < 255 then cwf w 2 else 255) else 0) = lbf w ∧ rl_in 0 255 (lbf w) := by
  obtain ⟨e, he, ex⟩ := wx_nat w
  obtain ⟨m, hm, em⟩ := wm_nat w
  have zz : (if (0 : Int32) < (if (0 : Int32) < 255 then (0 : Int32) else 255) then (if (0 : Int32) < 255 then (0 : Int32) else 255) else 0) = 0 := by decide
  have r0 : rl_in 0 255 (0 : Int32) := ⟨by decide, by decide⟩
  by_cases e1 : wx w = 255 ∧ ¬ wm w = 0
  · have c : cwf w 2 = 0 := by rw [cwf, if_pos e1]
    have l : lbf w = 0 := by rw [lbf, if_pos (Or.inl e1)]
    rw [c, l]
    exact ⟨zz, r0⟩
  have eS : wx w - 127 - 23 + 2 = nI (e + 2) - 150 := by rw [i32_s1, ex, show (2 : Int32) = nI 2 from rfl, nI_add]
  have eT : wx w - 150 + 2 = nI (e + 2) - 150 := by rw [i32_s2, ex, show (2 : Int32) = nI 2 from rfl, nI_add]
  by_cases e0 : wx w = 0
  · have c : cwf w 2 = 0 := by rw [cwf, if_neg e1, if_pos e0]
    have l : lbf w = 0 := by
      rw [lbf]
      split
      · rfl
      · rw [mwf, if_pos e0]
    rw [c, l]
    exact ⟨zz, r0⟩
  have c : cwf w 2 = if 7 < nI (e + 2) - 150 then (if w < 0 then -2147483648 else 2147483647) else if nI (e + 2) - 150 < -23 then 0 else if w < 0 then -cwz (nI m) (nI (e + 2) - 150) else cwz (nI m) (nI (e + 2) - 150) := by rw [cwf, if_neg e1, if_neg e0, eS, em]
  by_cases hw : w < 0
  · have l : lbf w = 0 := by rw [lbf, if_pos (Or.inr hw)]
    rw [l]
    refine ⟨?_, r0⟩
    rw [c, if_pos hw, if_pos hw]
    by_cases f1 : 157 < e + 2
    · rw [if_pos ((wS_7 (by omega)).mpr f1)]
      decide
    · rw [if_neg (fun z => f1 ((wS_7 (by omega)).mp z))]
      by_cases f2 : e + 2 < 127
      · rw [if_pos ((wS_23 (by omega)).mpr f2)]
        exact zz
      · rw [if_neg (fun z => f2 ((wS_23 (by omega)).mp z))]
        obtain ⟨z, hz, z1, -⟩ := wZ hm f1 f2
        rw [z1]
        have hn : ¬ (0 : Int32) < -nI z := by
          rw [Int32.lt_iff_toInt_lt, sb_negT (by omega)]
          show ¬ (0 : Int) < _
          omega
        have hl : -nI z < 255 := by
          rw [Int32.lt_iff_toInt_lt, sb_negT (by omega)]
          show _ < (255 : Int)
          omega
        rw [if_pos hl, if_neg hn]
  · have l : lbf w = mwf w 2 255 := by rw [lbf, if_neg (by rintro (z | z); exact e1 z; exact hw z)]
    have q : mwf w 2 255 = if wx w = 255 ∨ 7 < nI (e + 2) - 150 then 255 else if mwz (nI m) (nI (e + 2) - 150) < 255 then mwz (nI m) (nI (e + 2) - 150) else 255 := by rw [mwf, if_neg e0, eT, em]
    rw [l, q, c, if_neg hw, if_neg hw]
    by_cases f1 : 157 < e + 2
    · rw [if_pos ((wS_7 (by omega)).mpr f1), if_pos (Or.inr ((wS_7 (by omega)).mpr f1))]
      exact ⟨by decide, ⟨by decide, by decide⟩⟩
    · rw [if_neg (fun z => f1 ((wS_7 (by omega)).mp z))]
      have ne255 : ¬ (wx w = 255 ∨ 7 < nI (e + 2) - 150) := by
        rintro (z | z)
        · have : e = 255 := (nI_eq (b := 255) (by omega) (by omega)).mp (ex.symm.trans z)
          omega
        · exact f1 ((wS_7 (by omega)).mp z)
      rw [if_neg ne255]
      by_cases f2 : e + 2 < 127
      · rw [if_pos ((wS_23 (by omega)).mpr f2), wZ0 hm f2]
        exact ⟨by decide, ⟨by decide, by decide⟩⟩
      · rw [if_neg (fun z => f2 ((wS_23 (by omega)).mp z))]
        obtain ⟨z, hz, z1, z2⟩ := wZ hm f1 f2
        rw [z1, z2]
        by_cases f3 : z < 255
        · have g : nI z < 255 := nI_lt (b := 255) f3 (by omega)
          rw [if_pos g]
          refine ⟨?_, nI_pos (by omega), fun y => ?_⟩
          · split
            · rfl
            · rename_i y
              have : z = 0 := Classical.byContradiction fun q => y (nI_lt (a := 0) (by omega) (by omega))
              subst this
              rfl
          · exact Int32.lt_irrefl (Int32.lt_trans g y)
        · have g : ¬ nI z < 255 := nI_nlt (b := 255) (by omega) (by omega)
          rw [if_neg g]
          exact ⟨by decide, ⟨by decide, by decide⟩⟩
