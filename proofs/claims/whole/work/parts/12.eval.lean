/-! rows by which simp runs the small machine -/
def am_dx (G : am_G) (d : Except Jvm.ClassFile.DecodeError (Instr × Nat)) (pc : Nat) (L : am_L) (st : List Value) (h : am_H) : am_S := match d with
  | .ok q => if am_len q.1 = 0 ∨ am_len q.1 = q.2 then am_ex G q.1 pc L st h else none
  | .error _ => none
def am_bd (sp : List Nat) (k : am_C → am_S) (s : am_S) : am_S := match s with
  | none => none
  | some (.inl r) => some (.inl r)
  | some (.inr c2) => if sp.contains c2.1 then some (.inr c2) else k c2
theorem am_go_s {G : am_G} {cc : ByteArray} {sp : List Nat} {n pc : Nat} {L : am_L} {st : List Value} {h : am_H} : am_go G cc sp (n + 1) (pc, L, st, h) = am_bd sp (am_go G cc sp n) (am_dx G (decode cc pc) pc L st h) := Eq.trans rfl rfl
theorem am_bd_none {sp : List Nat} {k : am_C → am_S} : am_bd sp k none = none := rfl
theorem am_bd_rt {sp : List Nat} {k : am_C → am_S} {v : Option Value} {h : am_H} : am_bd sp k (am_rt v h) = some (.inl (v, h)) := rfl
theorem am_bd_nx {sp : List Nat} {k : am_C → am_S} {pc : Nat} {L : am_L} {st : List Value} {h : am_H} : am_bd sp k (am_nx pc L st h) = if sp.contains pc then some (.inr (pc, L, st, h)) else k (pc, L, st, h) := rfl
theorem am_bd_ite {sp : List Nat} {k : am_C → am_S} {c : Prop} [Decidable c] {a b : am_S} : am_bd sp k (if c then a else b) = if c then am_bd sp k a else am_bd sp k b := by split <;> rfl
theorem am_1i_c {x : Int32} {r : List Value} {k : Int32 → List Value → am_S} : am_1i (.int x :: r) k = k x r := rfl
theorem am_2i_c {x y : Int32} {r : List Value} {k : Int32 → Int32 → List Value → am_S} : am_2i (.int y :: .int x :: r) k = k x y r := rfl
theorem am_1l_c {x : Int64} {r : List Value} {k : Int64 → List Value → am_S} : am_1l (.long x :: r) k = k x r := rfl
theorem am_2l_c {x y : Int64} {r : List Value} {k : Int64 → Int64 → List Value → am_S} : am_2l (.long y :: .long x :: r) k = k x y r := rfl
theorem am_li_c {x : Int64} {y : Int32} {r : List Value} {k : Int64 → Int32 → List Value → am_S} : am_li (.int y :: .long x :: r) k = k x y r := rfl
theorem am_1r_c {x : Nat} {r : List Value} {k : Nat → List Value → am_S} : am_1r (.ref x :: r) k = k x r := rfl
theorem am_ri_c {x : Nat} {y : Int32} {r : List Value} {k : Nat → Int32 → List Value → am_S} : am_ri (.int y :: .ref x :: r) k = k x y r := rfl
theorem am_rii_c {a : Nat} {i x : Int32} {r : List Value} {k : Nat → Int32 → Int32 → List Value → am_S} : am_rii (.int x :: .int i :: .ref a :: r) k = k a i x r := rfl
theorem am_ril_c {a : Nat} {i : Int32} {x : Int64} {r : List Value} {k : Nat → Int32 → Int64 → List Value → am_S} : am_ril (.long x :: .int i :: .ref a :: r) k = k a i x r := rfl
theorem am_vi_c {x : Int32} {k : Int32 → am_S} : am_vi (some (.int x)) k = k x := rfl
theorem am_vl_c {x : Int64} {k : Int64 → am_S} : am_vl (some (.long x)) k = k x := rfl
theorem am_vr_c {x : Nat} {k : Nat → am_S} : am_vr (some (.ref x)) k = k x := rfl
theorem am_ob_c {α β : Type} {x : α} {k : α → Option β} : am_ob (some x) k = k x := rfl
theorem am_ob_n {α β : Type} {k : α → Option β} : am_ob none k = none := rfl
theorem am_ob_ite {α β : Type} {c : Prop} [Decidable c] {a b : Option α} {k : α → Option β} : am_ob (if c then a else b) k = if c then am_ob a k else am_ob b k := by split <;> rfl
theorem am_kl_i {L : am_L} {j : Nat} {x : Int32} (e : am_ld L j = some (.int x)) : am_kill L (j + 1) = L := by simp only [am_kill, e]
def am_kk (o : Option Value) (L : am_L) (j : Nat) : am_L := match o with
  | some (.long _) => L.set j none
  | some (.double _) => L.set j none
  | _ => L
theorem am_kk_i {x : Int32} {L : am_L} {j : Nat} : am_kk (some (.int x)) L j = L := rfl
theorem am_kk_r {x : Nat} {L : am_L} {j : Nat} : am_kk (some (.ref x)) L j = L := rfl
theorem am_kk_l {x : Int64} {L : am_L} {j : Nat} : am_kk (some (.long x)) L j = L.set j none := rfl
theorem am_kk_n {L : am_L} {j : Nat} : am_kk none L j = L := rfl
theorem am_ui_1 {h : am_H} {k j a b : Nat} {x : Int32} : (am_ui h k j x).1 a b = if a = k ∧ b = j then x else h.1 a b := rfl
theorem am_ui_2 {h : am_H} {k j : Nat} {x : Int32} : (am_ui h k j x).2 = h.2 := rfl
theorem am_ul_2 {h : am_H} {k j a b : Nat} {x : Int64} : (am_ul h k j x).2 a b = if a = k ∧ b = j then x else h.2 a b := rfl
theorem am_ul_1 {h : am_H} {k j : Nat} {x : Int64} : (am_ul h k j x).1 = h.1 := rfl
theorem am_uf_1 {h : am_H} {k a b : Nat} {f : Nat → Int32} : (am_uf h k f).1 a b = if a = k then f b else h.1 a b := rfl
theorem am_uf_2 {h : am_H} {k : Nat} {f : Nat → Int32} : (am_uf h k f).2 = h.2 := rfl
theorem am_b0 {α : Type} {c : Prop} [Decidable c] {a b : α} : (if (if c then (1 : Int32) else 0) = 0 then a else b) = if c then b else a := by by_cases h : c <;> simp [h]
theorem am_tl_s {v : Value} {r : List Value} : (some v).toList ++ r = v :: r := rfl
theorem am_tl_n {r : List Value} : (none : Option Value).toList ++ r = r := rfl
theorem am_ic {n : Nat} : ((no_index (OfNat.ofNat n) : Nat) : Int) = OfNat.ofNat n := rfl
theorem am_ix_c {α : Type} {j n : Nat} {a : Option α} (hj : j < n) (hn : n < 2147483648) : am_ix (nI j) n a = a := by
  have h := vp_in_nI hj hn
  unfold vp_in at h
  unfold am_ix
  rw [if_neg h]
theorem am_ct_n {n : Nat} : List.contains ([] : List Nat) n = false := rfl
theorem am_ct_c {a n : Nat} {l : List Nat} : List.contains (a :: l) n = (n == a || l.contains n) := rfl
theorem am_fi {c j k : Nat} {h : am_H} (e : am_ft c j = 0) : am_fr c j k h = .int (h.1 k j) := by simp only [am_fr, e]
theorem am_fl {c j k : Nat} {h : am_H} (e : am_ft c j = 1) : am_fr c j k h = .long (h.2 k j) := by simp only [am_fr, e]
theorem am_fz {c j k : Nat} {h : am_H} (e : am_ft c j = 2) : am_fr c j k h = .int (h.1 k j) := by simp only [am_fr, e]
theorem am_fq {c j k : Nat} {h : am_H} (e : am_ft c j = 3) : am_fr c j k h = .ref (am_gr k j) := by simp only [am_fr, e]
theorem am_wi {c j k : Nat} {h : am_H} {x : Int32} (e : am_ft c j = 0) : am_fw c j k (.int x) h = some (am_ui h k j x) := by simp only [am_fw, e]
theorem am_wl {c j k : Nat} {h : am_H} {x : Int64} (e : am_ft c j = 1) : am_fw c j k (.long x) h = some (am_ul h k j x) := by simp only [am_fw, e]
theorem am_wz {c j k : Nat} {h : am_H} {x : Int32} (e : am_ft c j = 2) : am_fw c j k (.int x) h = if x = 0 ∨ x = 1 then some (am_ui h k j x) else none := by simp only [am_fw, e]
theorem am_fr_0_0 {k : Nat} {h : am_H} : am_fr 0 0 k h = .ref (am_gr k 0) := rfl
theorem am_fr_0_1 {k : Nat} {h : am_H} : am_fr 0 1 k h = .ref (am_gr k 1) := rfl
theorem am_fr_0_2 {k : Nat} {h : am_H} : am_fr 0 2 k h = .ref (am_gr k 2) := rfl
theorem am_fr_0_3 {k : Nat} {h : am_H} : am_fr 0 3 k h = .int (h.1 k 3) := rfl
theorem am_fw_0_3 {k : Nat} {h : am_H} {x : Int32} : am_fw 0 3 k (.int x) h = some (am_ui h k 3 x) := rfl
theorem am_fr_1_0 {k : Nat} {h : am_H} : am_fr 1 0 k h = .ref (am_gr k 0) := rfl
theorem am_fr_1_1 {k : Nat} {h : am_H} : am_fr 1 1 k h = .ref (am_gr k 1) := rfl
theorem am_fr_1_2 {k : Nat} {h : am_H} : am_fr 1 2 k h = .ref (am_gr k 2) := rfl
theorem am_fr_1_3 {k : Nat} {h : am_H} : am_fr 1 3 k h = .int (h.1 k 3) := rfl
theorem am_fw_1_3 {k : Nat} {h : am_H} {x : Int32} : am_fw 1 3 k (.int x) h = some (am_ui h k 3 x) := rfl
theorem am_fr_2_0 {k : Nat} {h : am_H} : am_fr 2 0 k h = .ref (am_gr k 0) := rfl
theorem am_fr_2_1 {k : Nat} {h : am_H} : am_fr 2 1 k h = .ref (am_gr k 1) := rfl
theorem am_fr_2_2 {k : Nat} {h : am_H} : am_fr 2 2 k h = .ref (am_gr k 2) := rfl
theorem am_fr_2_3 {k : Nat} {h : am_H} : am_fr 2 3 k h = .ref (am_gr k 3) := rfl
theorem am_fr_2_4 {k : Nat} {h : am_H} : am_fr 2 4 k h = .int (h.1 k 4) := rfl
theorem am_fw_2_4 {k : Nat} {h : am_H} {x : Int32} : am_fw 2 4 k (.int x) h = some (am_ui h k 4 x) := rfl
theorem am_fr_2_5 {k : Nat} {h : am_H} : am_fr 2 5 k h = .long (h.2 k 5) := rfl
theorem am_fw_2_5 {k : Nat} {h : am_H} {x : Int64} : am_fw 2 5 k (.long x) h = some (am_ul h k 5 x) := rfl
theorem am_fr_2_6 {k : Nat} {h : am_H} : am_fr 2 6 k h = .long (h.2 k 6) := rfl
theorem am_fw_2_6 {k : Nat} {h : am_H} {x : Int64} : am_fw 2 6 k (.long x) h = some (am_ul h k 6 x) := rfl
theorem am_fr_2_7 {k : Nat} {h : am_H} : am_fr 2 7 k h = .long (h.2 k 7) := rfl
theorem am_fw_2_7 {k : Nat} {h : am_H} {x : Int64} : am_fw 2 7 k (.long x) h = some (am_ul h k 7 x) := rfl
theorem am_fr_2_8 {k : Nat} {h : am_H} : am_fr 2 8 k h = .long (h.2 k 8) := rfl
theorem am_fw_2_8 {k : Nat} {h : am_H} {x : Int64} : am_fw 2 8 k (.long x) h = some (am_ul h k 8 x) := rfl
theorem am_fr_2_9 {k : Nat} {h : am_H} : am_fr 2 9 k h = .long (h.2 k 9) := rfl
theorem am_fw_2_9 {k : Nat} {h : am_H} {x : Int64} : am_fw 2 9 k (.long x) h = some (am_ul h k 9 x) := rfl
theorem am_fr_2_10 {k : Nat} {h : am_H} : am_fr 2 10 k h = .long (h.2 k 10) := rfl
theorem am_fw_2_10 {k : Nat} {h : am_H} {x : Int64} : am_fw 2 10 k (.long x) h = some (am_ul h k 10 x) := rfl
theorem am_fr_2_11 {k : Nat} {h : am_H} : am_fr 2 11 k h = .long (h.2 k 11) := rfl
theorem am_fw_2_11 {k : Nat} {h : am_H} {x : Int64} : am_fw 2 11 k (.long x) h = some (am_ul h k 11 x) := rfl
theorem am_fr_3_0 {k : Nat} {h : am_H} : am_fr 3 0 k h = .ref (am_gr k 0) := rfl
theorem am_fr_3_1 {k : Nat} {h : am_H} : am_fr 3 1 k h = .ref (am_gr k 1) := rfl
theorem am_fr_3_2 {k : Nat} {h : am_H} : am_fr 3 2 k h = .ref (am_gr k 2) := rfl
theorem am_fr_3_3 {k : Nat} {h : am_H} : am_fr 3 3 k h = .int (h.1 k 3) := rfl
theorem am_fw_3_3 {k : Nat} {h : am_H} {x : Int32} : am_fw 3 3 k (.int x) h = some (am_ui h k 3 x) := rfl
theorem am_fr_3_4 {k : Nat} {h : am_H} : am_fr 3 4 k h = .ref (am_gr k 4) := rfl
theorem am_fr_3_5 {k : Nat} {h : am_H} : am_fr 3 5 k h = .ref (am_gr k 5) := rfl
theorem am_fr_3_6 {k : Nat} {h : am_H} : am_fr 3 6 k h = .ref (am_gr k 6) := rfl
theorem am_fr_3_7 {k : Nat} {h : am_H} : am_fr 3 7 k h = .ref (am_gr k 7) := rfl
theorem am_fr_4_0 {k : Nat} {h : am_H} : am_fr 4 0 k h = .ref (am_gr k 0) := rfl
theorem am_fr_4_1 {k : Nat} {h : am_H} : am_fr 4 1 k h = .ref (am_gr k 1) := rfl
theorem am_fr_4_2 {k : Nat} {h : am_H} : am_fr 4 2 k h = .int (h.1 k 2) := rfl
theorem am_fw_4_2 {k : Nat} {h : am_H} {x : Int32} : am_fw 4 2 k (.int x) h = some (am_ui h k 2 x) := rfl
theorem am_fr_5_0 {k : Nat} {h : am_H} : am_fr 5 0 k h = .ref (am_gr k 0) := rfl
theorem am_fr_5_1 {k : Nat} {h : am_H} : am_fr 5 1 k h = .ref (am_gr k 1) := rfl
theorem am_fr_5_2 {k : Nat} {h : am_H} : am_fr 5 2 k h = .int (h.1 k 2) := rfl
theorem am_fw_5_2 {k : Nat} {h : am_H} {x : Int32} : am_fw 5 2 k (.int x) h = if x = 0 ∨ x = 1 then some (am_ui h k 2 x) else none := rfl
theorem am_fr_5_3 {k : Nat} {h : am_H} : am_fr 5 3 k h = .int (h.1 k 3) := rfl
theorem am_fw_5_3 {k : Nat} {h : am_H} {x : Int32} : am_fw 5 3 k (.int x) h = some (am_ui h k 3 x) := rfl
theorem am_fr_5_4 {k : Nat} {h : am_H} : am_fr 5 4 k h = .int (h.1 k 4) := rfl
theorem am_fw_5_4 {k : Nat} {h : am_H} {x : Int32} : am_fw 5 4 k (.int x) h = some (am_ui h k 4 x) := rfl
theorem am_fr_5_5 {k : Nat} {h : am_H} : am_fr 5 5 k h = .int (h.1 k 5) := rfl
theorem am_fw_5_5 {k : Nat} {h : am_H} {x : Int32} : am_fw 5 5 k (.int x) h = some (am_ui h k 5 x) := rfl
theorem am_fr_6_0 {k : Nat} {h : am_H} : am_fr 6 0 k h = .ref (am_gr k 0) := rfl
theorem am_fr_6_1 {k : Nat} {h : am_H} : am_fr 6 1 k h = .ref (am_gr k 1) := rfl
theorem am_fr_6_2 {k : Nat} {h : am_H} : am_fr 6 2 k h = .ref (am_gr k 2) := rfl
theorem am_fr_6_3 {k : Nat} {h : am_H} : am_fr 6 3 k h = .ref (am_gr k 3) := rfl
theorem am_fr_6_4 {k : Nat} {h : am_H} : am_fr 6 4 k h = .ref (am_gr k 4) := rfl
theorem am_fr_6_5 {k : Nat} {h : am_H} : am_fr 6 5 k h = .ref (am_gr k 5) := rfl
theorem am_fr_6_6 {k : Nat} {h : am_H} : am_fr 6 6 k h = .ref (am_gr k 6) := rfl
theorem am_fr_6_7 {k : Nat} {h : am_H} : am_fr 6 7 k h = .int (h.1 k 7) := rfl
theorem am_fw_6_7 {k : Nat} {h : am_H} {x : Int32} : am_fw 6 7 k (.int x) h = some (am_ui h k 7 x) := rfl
theorem am_fr_7_0 {k : Nat} {h : am_H} : am_fr 7 0 k h = .ref (am_gr k 0) := rfl
theorem am_fr_7_1 {k : Nat} {h : am_H} : am_fr 7 1 k h = .int (h.1 k 1) := rfl
theorem am_fw_7_1 {k : Nat} {h : am_H} {x : Int32} : am_fw 7 1 k (.int x) h = if x = 0 ∨ x = 1 then some (am_ui h k 1 x) else none := rfl
theorem am_fr_7_2 {k : Nat} {h : am_H} : am_fr 7 2 k h = .int (h.1 k 2) := rfl
theorem am_fw_7_2 {k : Nat} {h : am_H} {x : Int32} : am_fw 7 2 k (.int x) h = some (am_ui h k 2 x) := rfl
theorem am_fr_7_3 {k : Nat} {h : am_H} : am_fr 7 3 k h = .int (h.1 k 3) := rfl
theorem am_fw_7_3 {k : Nat} {h : am_H} {x : Int32} : am_fw 7 3 k (.int x) h = some (am_ui h k 3 x) := rfl
theorem am_fr_8_0 {k : Nat} {h : am_H} : am_fr 8 0 k h = .ref (am_gr k 0) := rfl
theorem am_fr_8_1 {k : Nat} {h : am_H} : am_fr 8 1 k h = .ref (am_gr k 1) := rfl
theorem am_fr_8_2 {k : Nat} {h : am_H} : am_fr 8 2 k h = .ref (am_gr k 2) := rfl
theorem am_fr_8_3 {k : Nat} {h : am_H} : am_fr 8 3 k h = .ref (am_gr k 3) := rfl
theorem am_fr_8_4 {k : Nat} {h : am_H} : am_fr 8 4 k h = .ref (am_gr k 4) := rfl
theorem am_fr_8_5 {k : Nat} {h : am_H} : am_fr 8 5 k h = .ref (am_gr k 5) := rfl
theorem am_fr_8_6 {k : Nat} {h : am_H} : am_fr 8 6 k h = .ref (am_gr k 6) := rfl
theorem am_fr_8_7 {k : Nat} {h : am_H} : am_fr 8 7 k h = .ref (am_gr k 7) := rfl
theorem am_fr_8_8 {k : Nat} {h : am_H} : am_fr 8 8 k h = .ref (am_gr k 8) := rfl
theorem am_fr_8_9 {k : Nat} {h : am_H} : am_fr 8 9 k h = .ref (am_gr k 9) := rfl
theorem am_fr_8_10 {k : Nat} {h : am_H} : am_fr 8 10 k h = .ref (am_gr k 10) := rfl
theorem am_fr_9_0 {k : Nat} {h : am_H} : am_fr 9 0 k h = .ref (am_gr k 0) := rfl
theorem am_fr_9_1 {k : Nat} {h : am_H} : am_fr 9 1 k h = .ref (am_gr k 1) := rfl
theorem am_fr_9_2 {k : Nat} {h : am_H} : am_fr 9 2 k h = .ref (am_gr k 2) := rfl
theorem am_fr_9_3 {k : Nat} {h : am_H} : am_fr 9 3 k h = .ref (am_gr k 3) := rfl
theorem am_fr_9_4 {k : Nat} {h : am_H} : am_fr 9 4 k h = .ref (am_gr k 4) := rfl
theorem am_fr_9_5 {k : Nat} {h : am_H} : am_fr 9 5 k h = .int (h.1 k 5) := rfl
theorem am_fw_9_5 {k : Nat} {h : am_H} {x : Int32} : am_fw 9 5 k (.int x) h = some (am_ui h k 5 x) := rfl
theorem am_fr_9_6 {k : Nat} {h : am_H} : am_fr 9 6 k h = .int (h.1 k 6) := rfl
theorem am_fw_9_6 {k : Nat} {h : am_H} {x : Int32} : am_fw 9 6 k (.int x) h = some (am_ui h k 6 x) := rfl
theorem am_fr_9_7 {k : Nat} {h : am_H} : am_fr 9 7 k h = .int (h.1 k 7) := rfl
theorem am_fw_9_7 {k : Nat} {h : am_H} {x : Int32} : am_fw 9 7 k (.int x) h = some (am_ui h k 7 x) := rfl
theorem am_fr_9_8 {k : Nat} {h : am_H} : am_fr 9 8 k h = .int (h.1 k 8) := rfl
theorem am_fw_9_8 {k : Nat} {h : am_H} {x : Int32} : am_fw 9 8 k (.int x) h = some (am_ui h k 8 x) := rfl
theorem am_fr_9_9 {k : Nat} {h : am_H} : am_fr 9 9 k h = .int (h.1 k 9) := rfl
theorem am_fw_9_9 {k : Nat} {h : am_H} {x : Int32} : am_fw 9 9 k (.int x) h = some (am_ui h k 9 x) := rfl
theorem am_fr_9_10 {k : Nat} {h : am_H} : am_fr 9 10 k h = .int (h.1 k 10) := rfl
theorem am_fw_9_10 {k : Nat} {h : am_H} {x : Int32} : am_fw 9 10 k (.int x) h = some (am_ui h k 10 x) := rfl
theorem am_fr_9_11 {k : Nat} {h : am_H} : am_fr 9 11 k h = .int (h.1 k 11) := rfl
theorem am_fw_9_11 {k : Nat} {h : am_H} {x : Int32} : am_fw 9 11 k (.int x) h = some (am_ui h k 11 x) := rfl
theorem am_fr_9_12 {k : Nat} {h : am_H} : am_fr 9 12 k h = .ref (am_gr k 12) := rfl
theorem am_fr_9_13 {k : Nat} {h : am_H} : am_fr 9 13 k h = .int (h.1 k 13) := rfl
theorem am_fw_9_13 {k : Nat} {h : am_H} {x : Int32} : am_fw 9 13 k (.int x) h = some (am_ui h k 13 x) := rfl
theorem am_fr_9_14 {k : Nat} {h : am_H} : am_fr 9 14 k h = .ref (am_gr k 14) := rfl
theorem am_fr_9_15 {k : Nat} {h : am_H} : am_fr 9 15 k h = .int (h.1 k 15) := rfl
theorem am_fw_9_15 {k : Nat} {h : am_H} {x : Int32} : am_fw 9 15 k (.int x) h = some (am_ui h k 15 x) := rfl
theorem am_fr_9_16 {k : Nat} {h : am_H} : am_fr 9 16 k h = .ref (am_gr k 16) := rfl
theorem am_fr_9_17 {k : Nat} {h : am_H} : am_fr 9 17 k h = .ref (am_gr k 17) := rfl
theorem am_fr_9_18 {k : Nat} {h : am_H} : am_fr 9 18 k h = .int (h.1 k 18) := rfl
theorem am_fw_9_18 {k : Nat} {h : am_H} {x : Int32} : am_fw 9 18 k (.int x) h = some (am_ui h k 18 x) := rfl
theorem am_fr_9_19 {k : Nat} {h : am_H} : am_fr 9 19 k h = .long (h.2 k 19) := rfl
theorem am_fw_9_19 {k : Nat} {h : am_H} {x : Int64} : am_fw 9 19 k (.long x) h = some (am_ul h k 19 x) := rfl
theorem am_fr_9_20 {k : Nat} {h : am_H} : am_fr 9 20 k h = .long (h.2 k 20) := rfl
theorem am_fw_9_20 {k : Nat} {h : am_H} {x : Int64} : am_fw 9 20 k (.long x) h = some (am_ul h k 20 x) := rfl
theorem am_fr_9_21 {k : Nat} {h : am_H} : am_fr 9 21 k h = .long (h.2 k 21) := rfl
theorem am_fw_9_21 {k : Nat} {h : am_H} {x : Int64} : am_fw 9 21 k (.long x) h = some (am_ul h k 21 x) := rfl
theorem am_fr_9_22 {k : Nat} {h : am_H} : am_fr 9 22 k h = .long (h.2 k 22) := rfl
theorem am_fw_9_22 {k : Nat} {h : am_H} {x : Int64} : am_fw 9 22 k (.long x) h = some (am_ul h k 22 x) := rfl
theorem am_fr_9_23 {k : Nat} {h : am_H} : am_fr 9 23 k h = .long (h.2 k 23) := rfl
theorem am_fw_9_23 {k : Nat} {h : am_H} {x : Int64} : am_fw 9 23 k (.long x) h = some (am_ul h k 23 x) := rfl
theorem am_fr_9_24 {k : Nat} {h : am_H} : am_fr 9 24 k h = .long (h.2 k 24) := rfl
theorem am_fw_9_24 {k : Nat} {h : am_H} {x : Int64} : am_fw 9 24 k (.long x) h = some (am_ul h k 24 x) := rfl
theorem am_fr_9_25 {k : Nat} {h : am_H} : am_fr 9 25 k h = .long (h.2 k 25) := rfl
theorem am_fw_9_25 {k : Nat} {h : am_H} {x : Int64} : am_fw 9 25 k (.long x) h = some (am_ul h k 25 x) := rfl
theorem am_fr_9_26 {k : Nat} {h : am_H} : am_fr 9 26 k h = .ref (am_gr k 26) := rfl
theorem am_fr_9_27 {k : Nat} {h : am_H} : am_fr 9 27 k h = .ref (am_gr k 27) := rfl
theorem am_fr_9_28 {k : Nat} {h : am_H} : am_fr 9 28 k h = .int (h.1 k 28) := rfl
theorem am_fw_9_28 {k : Nat} {h : am_H} {x : Int32} : am_fw 9 28 k (.int x) h = some (am_ui h k 28 x) := rfl
theorem am_fr_9_29 {k : Nat} {h : am_H} : am_fr 9 29 k h = .ref (am_gr k 29) := rfl
theorem am_fr_9_30 {k : Nat} {h : am_H} : am_fr 9 30 k h = .ref (am_gr k 30) := rfl
theorem am_fr_9_31 {k : Nat} {h : am_H} : am_fr 9 31 k h = .ref (am_gr k 31) := rfl
theorem am_fr_9_32 {k : Nat} {h : am_H} : am_fr 9 32 k h = .ref (am_gr k 32) := rfl
theorem am_fr_9_33 {k : Nat} {h : am_H} : am_fr 9 33 k h = .ref (am_gr k 33) := rfl
theorem am_fr_9_34 {k : Nat} {h : am_H} : am_fr 9 34 k h = .ref (am_gr k 34) := rfl
theorem am_fr_9_35 {k : Nat} {h : am_H} : am_fr 9 35 k h = .ref (am_gr k 35) := rfl
theorem am_fr_9_36 {k : Nat} {h : am_H} : am_fr 9 36 k h = .ref (am_gr k 36) := rfl
theorem am_fr_9_37 {k : Nat} {h : am_H} : am_fr 9 37 k h = .ref (am_gr k 37) := rfl
theorem am_fr_9_38 {k : Nat} {h : am_H} : am_fr 9 38 k h = .ref (am_gr k 38) := rfl
theorem am_ld_0 {x : Option Value} {L : am_L} : am_ld (x :: L) 0 = x := rfl
theorem am_set_0 {x y : Option Value} {L : am_L} : List.set (x :: L) 0 y = y :: L := rfl
theorem am_lnl_0 {x : Option Value} {L : am_L} : (0 < List.length (x :: L)) = True := by simp
theorem am_st1_0 {L : am_L} {v : Value} : am_st1 L 0 v = List.set L 0 (some v) := rfl
theorem am_st2_0 {L : am_L} {v : Value} : am_st2 L 0 v = List.set (List.set L 0 (some v)) 1 none := rfl
theorem am_ld_1 {a0 x : Option Value} {L : am_L} : am_ld (a0 :: x :: L) 1 = x := rfl
theorem am_set_1 {a0 x y : Option Value} {L : am_L} : List.set (a0 :: x :: L) 1 y = a0 :: y :: L := rfl
theorem am_lnl_1 {a0 x : Option Value} {L : am_L} : (1 < List.length (a0 :: x :: L)) = True := by simp
theorem am_st1_1 {L : am_L} {v : Value} : am_st1 L 1 v = List.set (am_kk (am_ld L 0) L 0) 1 (some v) := rfl
theorem am_st2_1 {L : am_L} {v : Value} : am_st2 L 1 v = List.set (List.set (am_kk (am_ld L 0) L 0) 1 (some v)) 2 none := rfl
theorem am_ld_2 {a0 a1 x : Option Value} {L : am_L} : am_ld (a0 :: a1 :: x :: L) 2 = x := rfl
theorem am_set_2 {a0 a1 x y : Option Value} {L : am_L} : List.set (a0 :: a1 :: x :: L) 2 y = a0 :: a1 :: y :: L := rfl
theorem am_lnl_2 {a0 a1 x : Option Value} {L : am_L} : (2 < List.length (a0 :: a1 :: x :: L)) = True := by simp
theorem am_st1_2 {L : am_L} {v : Value} : am_st1 L 2 v = List.set (am_kk (am_ld L 1) L 1) 2 (some v) := rfl
theorem am_st2_2 {L : am_L} {v : Value} : am_st2 L 2 v = List.set (List.set (am_kk (am_ld L 1) L 1) 2 (some v)) 3 none := rfl
theorem am_ld_3 {a0 a1 a2 x : Option Value} {L : am_L} : am_ld (a0 :: a1 :: a2 :: x :: L) 3 = x := rfl
theorem am_set_3 {a0 a1 a2 x y : Option Value} {L : am_L} : List.set (a0 :: a1 :: a2 :: x :: L) 3 y = a0 :: a1 :: a2 :: y :: L := rfl
theorem am_lnl_3 {a0 a1 a2 x : Option Value} {L : am_L} : (3 < List.length (a0 :: a1 :: a2 :: x :: L)) = True := by simp
theorem am_st1_3 {L : am_L} {v : Value} : am_st1 L 3 v = List.set (am_kk (am_ld L 2) L 2) 3 (some v) := rfl
theorem am_st2_3 {L : am_L} {v : Value} : am_st2 L 3 v = List.set (List.set (am_kk (am_ld L 2) L 2) 3 (some v)) 4 none := rfl
theorem am_ld_4 {a0 a1 a2 a3 x : Option Value} {L : am_L} : am_ld (a0 :: a1 :: a2 :: a3 :: x :: L) 4 = x := rfl
theorem am_set_4 {a0 a1 a2 a3 x y : Option Value} {L : am_L} : List.set (a0 :: a1 :: a2 :: a3 :: x :: L) 4 y = a0 :: a1 :: a2 :: a3 :: y :: L := rfl
theorem am_lnl_4 {a0 a1 a2 a3 x : Option Value} {L : am_L} : (4 < List.length (a0 :: a1 :: a2 :: a3 :: x :: L)) = True := by simp
theorem am_st1_4 {L : am_L} {v : Value} : am_st1 L 4 v = List.set (am_kk (am_ld L 3) L 3) 4 (some v) := rfl
theorem am_st2_4 {L : am_L} {v : Value} : am_st2 L 4 v = List.set (List.set (am_kk (am_ld L 3) L 3) 4 (some v)) 5 none := rfl
theorem am_ld_5 {a0 a1 a2 a3 a4 x : Option Value} {L : am_L} : am_ld (a0 :: a1 :: a2 :: a3 :: a4 :: x :: L) 5 = x := rfl
theorem am_set_5 {a0 a1 a2 a3 a4 x y : Option Value} {L : am_L} : List.set (a0 :: a1 :: a2 :: a3 :: a4 :: x :: L) 5 y = a0 :: a1 :: a2 :: a3 :: a4 :: y :: L := rfl
theorem am_lnl_5 {a0 a1 a2 a3 a4 x : Option Value} {L : am_L} : (5 < List.length (a0 :: a1 :: a2 :: a3 :: a4 :: x :: L)) = True := by simp
theorem am_st1_5 {L : am_L} {v : Value} : am_st1 L 5 v = List.set (am_kk (am_ld L 4) L 4) 5 (some v) := rfl
theorem am_st2_5 {L : am_L} {v : Value} : am_st2 L 5 v = List.set (List.set (am_kk (am_ld L 4) L 4) 5 (some v)) 6 none := rfl
theorem am_ld_6 {a0 a1 a2 a3 a4 a5 x : Option Value} {L : am_L} : am_ld (a0 :: a1 :: a2 :: a3 :: a4 :: a5 :: x :: L) 6 = x := rfl
theorem am_set_6 {a0 a1 a2 a3 a4 a5 x y : Option Value} {L : am_L} : List.set (a0 :: a1 :: a2 :: a3 :: a4 :: a5 :: x :: L) 6 y = a0 :: a1 :: a2 :: a3 :: a4 :: a5 :: y :: L := rfl
theorem am_lnl_6 {a0 a1 a2 a3 a4 a5 x : Option Value} {L : am_L} : (6 < List.length (a0 :: a1 :: a2 :: a3 :: a4 :: a5 :: x :: L)) = True := by simp
theorem am_st1_6 {L : am_L} {v : Value} : am_st1 L 6 v = List.set (am_kk (am_ld L 5) L 5) 6 (some v) := rfl
theorem am_st2_6 {L : am_L} {v : Value} : am_st2 L 6 v = List.set (List.set (am_kk (am_ld L 5) L 5) 6 (some v)) 7 none := rfl
theorem am_ld_7 {a0 a1 a2 a3 a4 a5 a6 x : Option Value} {L : am_L} : am_ld (a0 :: a1 :: a2 :: a3 :: a4 :: a5 :: a6 :: x :: L) 7 = x := rfl
theorem am_set_7 {a0 a1 a2 a3 a4 a5 a6 x y : Option Value} {L : am_L} : List.set (a0 :: a1 :: a2 :: a3 :: a4 :: a5 :: a6 :: x :: L) 7 y = a0 :: a1 :: a2 :: a3 :: a4 :: a5 :: a6 :: y :: L := rfl
theorem am_lnl_7 {a0 a1 a2 a3 a4 a5 a6 x : Option Value} {L : am_L} : (7 < List.length (a0 :: a1 :: a2 :: a3 :: a4 :: a5 :: a6 :: x :: L)) = True := by simp
theorem am_st1_7 {L : am_L} {v : Value} : am_st1 L 7 v = List.set (am_kk (am_ld L 6) L 6) 7 (some v) := rfl
theorem am_st2_7 {L : am_L} {v : Value} : am_st2 L 7 v = List.set (List.set (am_kk (am_ld L 6) L 6) 7 (some v)) 8 none := rfl
theorem am_ld_8 {a0 a1 a2 a3 a4 a5 a6 a7 x : Option Value} {L : am_L} : am_ld (a0 :: a1 :: a2 :: a3 :: a4 :: a5 :: a6 :: a7 :: x :: L) 8 = x := rfl
theorem am_set_8 {a0 a1 a2 a3 a4 a5 a6 a7 x y : Option Value} {L : am_L} : List.set (a0 :: a1 :: a2 :: a3 :: a4 :: a5 :: a6 :: a7 :: x :: L) 8 y = a0 :: a1 :: a2 :: a3 :: a4 :: a5 :: a6 :: a7 :: y :: L := rfl
theorem am_lnl_8 {a0 a1 a2 a3 a4 a5 a6 a7 x : Option Value} {L : am_L} : (8 < List.length (a0 :: a1 :: a2 :: a3 :: a4 :: a5 :: a6 :: a7 :: x :: L)) = True := by simp
theorem am_st1_8 {L : am_L} {v : Value} : am_st1 L 8 v = List.set (am_kk (am_ld L 7) L 7) 8 (some v) := rfl
theorem am_st2_8 {L : am_L} {v : Value} : am_st2 L 8 v = List.set (List.set (am_kk (am_ld L 7) L 7) 8 (some v)) 9 none := rfl
theorem am_ld_9 {a0 a1 a2 a3 a4 a5 a6 a7 a8 x : Option Value} {L : am_L} : am_ld (a0 :: a1 :: a2 :: a3 :: a4 :: a5 :: a6 :: a7 :: a8 :: x :: L) 9 = x := rfl
theorem am_set_9 {a0 a1 a2 a3 a4 a5 a6 a7 a8 x y : Option Value} {L : am_L} : List.set (a0 :: a1 :: a2 :: a3 :: a4 :: a5 :: a6 :: a7 :: a8 :: x :: L) 9 y = a0 :: a1 :: a2 :: a3 :: a4 :: a5 :: a6 :: a7 :: a8 :: y :: L := rfl
theorem am_lnl_9 {a0 a1 a2 a3 a4 a5 a6 a7 a8 x : Option Value} {L : am_L} : (9 < List.length (a0 :: a1 :: a2 :: a3 :: a4 :: a5 :: a6 :: a7 :: a8 :: x :: L)) = True := by simp
theorem am_st1_9 {L : am_L} {v : Value} : am_st1 L 9 v = List.set (am_kk (am_ld L 8) L 8) 9 (some v) := rfl
theorem am_st2_9 {L : am_L} {v : Value} : am_st2 L 9 v = List.set (List.set (am_kk (am_ld L 8) L 8) 9 (some v)) 10 none := rfl
theorem am_ld_10 {a0 a1 a2 a3 a4 a5 a6 a7 a8 a9 x : Option Value} {L : am_L} : am_ld (a0 :: a1 :: a2 :: a3 :: a4 :: a5 :: a6 :: a7 :: a8 :: a9 :: x :: L) 10 = x := rfl
theorem am_set_10 {a0 a1 a2 a3 a4 a5 a6 a7 a8 a9 x y : Option Value} {L : am_L} : List.set (a0 :: a1 :: a2 :: a3 :: a4 :: a5 :: a6 :: a7 :: a8 :: a9 :: x :: L) 10 y = a0 :: a1 :: a2 :: a3 :: a4 :: a5 :: a6 :: a7 :: a8 :: a9 :: y :: L := rfl
theorem am_lnl_10 {a0 a1 a2 a3 a4 a5 a6 a7 a8 a9 x : Option Value} {L : am_L} : (10 < List.length (a0 :: a1 :: a2 :: a3 :: a4 :: a5 :: a6 :: a7 :: a8 :: a9 :: x :: L)) = True := by simp
theorem am_st1_10 {L : am_L} {v : Value} : am_st1 L 10 v = List.set (am_kk (am_ld L 9) L 9) 10 (some v) := rfl
theorem am_st2_10 {L : am_L} {v : Value} : am_st2 L 10 v = List.set (List.set (am_kk (am_ld L 9) L 9) 10 (some v)) 11 none := rfl
theorem am_ld_11 {a0 a1 a2 a3 a4 a5 a6 a7 a8 a9 a10 x : Option Value} {L : am_L} : am_ld (a0 :: a1 :: a2 :: a3 :: a4 :: a5 :: a6 :: a7 :: a8 :: a9 :: a10 :: x :: L) 11 = x := rfl
theorem am_set_11 {a0 a1 a2 a3 a4 a5 a6 a7 a8 a9 a10 x y : Option Value} {L : am_L} : List.set (a0 :: a1 :: a2 :: a3 :: a4 :: a5 :: a6 :: a7 :: a8 :: a9 :: a10 :: x :: L) 11 y = a0 :: a1 :: a2 :: a3 :: a4 :: a5 :: a6 :: a7 :: a8 :: a9 :: a10 :: y :: L := rfl
theorem am_lnl_11 {a0 a1 a2 a3 a4 a5 a6 a7 a8 a9 a10 x : Option Value} {L : am_L} : (11 < List.length (a0 :: a1 :: a2 :: a3 :: a4 :: a5 :: a6 :: a7 :: a8 :: a9 :: a10 :: x :: L)) = True := by simp
theorem am_st1_11 {L : am_L} {v : Value} : am_st1 L 11 v = List.set (am_kk (am_ld L 10) L 10) 11 (some v) := rfl
theorem am_st2_11 {L : am_L} {v : Value} : am_st2 L 11 v = List.set (List.set (am_kk (am_ld L 10) L 10) 11 (some v)) 12 none := rfl
theorem am_ld_12 {a0 a1 a2 a3 a4 a5 a6 a7 a8 a9 a10 a11 x : Option Value} {L : am_L} : am_ld (a0 :: a1 :: a2 :: a3 :: a4 :: a5 :: a6 :: a7 :: a8 :: a9 :: a10 :: a11 :: x :: L) 12 = x := rfl
theorem am_set_12 {a0 a1 a2 a3 a4 a5 a6 a7 a8 a9 a10 a11 x y : Option Value} {L : am_L} : List.set (a0 :: a1 :: a2 :: a3 :: a4 :: a5 :: a6 :: a7 :: a8 :: a9 :: a10 :: a11 :: x :: L) 12 y = a0 :: a1 :: a2 :: a3 :: a4 :: a5 :: a6 :: a7 :: a8 :: a9 :: a10 :: a11 :: y :: L := rfl
theorem am_lnl_12 {a0 a1 a2 a3 a4 a5 a6 a7 a8 a9 a10 a11 x : Option Value} {L : am_L} : (12 < List.length (a0 :: a1 :: a2 :: a3 :: a4 :: a5 :: a6 :: a7 :: a8 :: a9 :: a10 :: a11 :: x :: L)) = True := by simp
theorem am_st1_12 {L : am_L} {v : Value} : am_st1 L 12 v = List.set (am_kk (am_ld L 11) L 11) 12 (some v) := rfl
theorem am_st2_12 {L : am_L} {v : Value} : am_st2 L 12 v = List.set (List.set (am_kk (am_ld L 11) L 11) 12 (some v)) 13 none := rfl
theorem am_ld_13 {a0 a1 a2 a3 a4 a5 a6 a7 a8 a9 a10 a11 a12 x : Option Value} {L : am_L} : am_ld (a0 :: a1 :: a2 :: a3 :: a4 :: a5 :: a6 :: a7 :: a8 :: a9 :: a10 :: a11 :: a12 :: x :: L) 13 = x := rfl
theorem am_set_13 {a0 a1 a2 a3 a4 a5 a6 a7 a8 a9 a10 a11 a12 x y : Option Value} {L : am_L} : List.set (a0 :: a1 :: a2 :: a3 :: a4 :: a5 :: a6 :: a7 :: a8 :: a9 :: a10 :: a11 :: a12 :: x :: L) 13 y = a0 :: a1 :: a2 :: a3 :: a4 :: a5 :: a6 :: a7 :: a8 :: a9 :: a10 :: a11 :: a12 :: y :: L := rfl
theorem am_lnl_13 {a0 a1 a2 a3 a4 a5 a6 a7 a8 a9 a10 a11 a12 x : Option Value} {L : am_L} : (13 < List.length (a0 :: a1 :: a2 :: a3 :: a4 :: a5 :: a6 :: a7 :: a8 :: a9 :: a10 :: a11 :: a12 :: x :: L)) = True := by simp
theorem am_st1_13 {L : am_L} {v : Value} : am_st1 L 13 v = List.set (am_kk (am_ld L 12) L 12) 13 (some v) := rfl
theorem am_st2_13 {L : am_L} {v : Value} : am_st2 L 13 v = List.set (List.set (am_kk (am_ld L 12) L 12) 13 (some v)) 14 none := rfl
theorem am_ld_14 {a0 a1 a2 a3 a4 a5 a6 a7 a8 a9 a10 a11 a12 a13 x : Option Value} {L : am_L} : am_ld (a0 :: a1 :: a2 :: a3 :: a4 :: a5 :: a6 :: a7 :: a8 :: a9 :: a10 :: a11 :: a12 :: a13 :: x :: L) 14 = x := rfl
theorem am_set_14 {a0 a1 a2 a3 a4 a5 a6 a7 a8 a9 a10 a11 a12 a13 x y : Option Value} {L : am_L} : List.set (a0 :: a1 :: a2 :: a3 :: a4 :: a5 :: a6 :: a7 :: a8 :: a9 :: a10 :: a11 :: a12 :: a13 :: x :: L) 14 y = a0 :: a1 :: a2 :: a3 :: a4 :: a5 :: a6 :: a7 :: a8 :: a9 :: a10 :: a11 :: a12 :: a13 :: y :: L := rfl
theorem am_lnl_14 {a0 a1 a2 a3 a4 a5 a6 a7 a8 a9 a10 a11 a12 a13 x : Option Value} {L : am_L} : (14 < List.length (a0 :: a1 :: a2 :: a3 :: a4 :: a5 :: a6 :: a7 :: a8 :: a9 :: a10 :: a11 :: a12 :: a13 :: x :: L)) = True := by simp
theorem am_st1_14 {L : am_L} {v : Value} : am_st1 L 14 v = List.set (am_kk (am_ld L 13) L 13) 14 (some v) := rfl
theorem am_st2_14 {L : am_L} {v : Value} : am_st2 L 14 v = List.set (List.set (am_kk (am_ld L 13) L 13) 14 (some v)) 15 none := rfl
theorem am_ld_15 {a0 a1 a2 a3 a4 a5 a6 a7 a8 a9 a10 a11 a12 a13 a14 x : Option Value} {L : am_L} : am_ld (a0 :: a1 :: a2 :: a3 :: a4 :: a5 :: a6 :: a7 :: a8 :: a9 :: a10 :: a11 :: a12 :: a13 :: a14 :: x :: L) 15 = x := rfl
theorem am_set_15 {a0 a1 a2 a3 a4 a5 a6 a7 a8 a9 a10 a11 a12 a13 a14 x y : Option Value} {L : am_L} : List.set (a0 :: a1 :: a2 :: a3 :: a4 :: a5 :: a6 :: a7 :: a8 :: a9 :: a10 :: a11 :: a12 :: a13 :: a14 :: x :: L) 15 y = a0 :: a1 :: a2 :: a3 :: a4 :: a5 :: a6 :: a7 :: a8 :: a9 :: a10 :: a11 :: a12 :: a13 :: a14 :: y :: L := rfl
theorem am_lnl_15 {a0 a1 a2 a3 a4 a5 a6 a7 a8 a9 a10 a11 a12 a13 a14 x : Option Value} {L : am_L} : (15 < List.length (a0 :: a1 :: a2 :: a3 :: a4 :: a5 :: a6 :: a7 :: a8 :: a9 :: a10 :: a11 :: a12 :: a13 :: a14 :: x :: L)) = True := by simp
theorem am_st1_15 {L : am_L} {v : Value} : am_st1 L 15 v = List.set (am_kk (am_ld L 14) L 14) 15 (some v) := rfl
theorem am_st2_15 {L : am_L} {v : Value} : am_st2 L 15 v = List.set (List.set (am_kk (am_ld L 14) L 14) 15 (some v)) 16 none := rfl
theorem am_ld_16 {a0 a1 a2 a3 a4 a5 a6 a7 a8 a9 a10 a11 a12 a13 a14 a15 x : Option Value} {L : am_L} : am_ld (a0 :: a1 :: a2 :: a3 :: a4 :: a5 :: a6 :: a7 :: a8 :: a9 :: a10 :: a11 :: a12 :: a13 :: a14 :: a15 :: x :: L) 16 = x := rfl
theorem am_set_16 {a0 a1 a2 a3 a4 a5 a6 a7 a8 a9 a10 a11 a12 a13 a14 a15 x y : Option Value} {L : am_L} : List.set (a0 :: a1 :: a2 :: a3 :: a4 :: a5 :: a6 :: a7 :: a8 :: a9 :: a10 :: a11 :: a12 :: a13 :: a14 :: a15 :: x :: L) 16 y = a0 :: a1 :: a2 :: a3 :: a4 :: a5 :: a6 :: a7 :: a8 :: a9 :: a10 :: a11 :: a12 :: a13 :: a14 :: a15 :: y :: L := rfl
theorem am_lnl_16 {a0 a1 a2 a3 a4 a5 a6 a7 a8 a9 a10 a11 a12 a13 a14 a15 x : Option Value} {L : am_L} : (16 < List.length (a0 :: a1 :: a2 :: a3 :: a4 :: a5 :: a6 :: a7 :: a8 :: a9 :: a10 :: a11 :: a12 :: a13 :: a14 :: a15 :: x :: L)) = True := by simp
theorem am_st1_16 {L : am_L} {v : Value} : am_st1 L 16 v = List.set (am_kk (am_ld L 15) L 15) 16 (some v) := rfl
theorem am_st2_16 {L : am_L} {v : Value} : am_st2 L 16 v = List.set (List.set (am_kk (am_ld L 15) L 15) 16 (some v)) 17 none := rfl
theorem am_ld_17 {a0 a1 a2 a3 a4 a5 a6 a7 a8 a9 a10 a11 a12 a13 a14 a15 a16 x : Option Value} {L : am_L} : am_ld (a0 :: a1 :: a2 :: a3 :: a4 :: a5 :: a6 :: a7 :: a8 :: a9 :: a10 :: a11 :: a12 :: a13 :: a14 :: a15 :: a16 :: x :: L) 17 = x := rfl
theorem am_set_17 {a0 a1 a2 a3 a4 a5 a6 a7 a8 a9 a10 a11 a12 a13 a14 a15 a16 x y : Option Value} {L : am_L} : List.set (a0 :: a1 :: a2 :: a3 :: a4 :: a5 :: a6 :: a7 :: a8 :: a9 :: a10 :: a11 :: a12 :: a13 :: a14 :: a15 :: a16 :: x :: L) 17 y = a0 :: a1 :: a2 :: a3 :: a4 :: a5 :: a6 :: a7 :: a8 :: a9 :: a10 :: a11 :: a12 :: a13 :: a14 :: a15 :: a16 :: y :: L := rfl
theorem am_lnl_17 {a0 a1 a2 a3 a4 a5 a6 a7 a8 a9 a10 a11 a12 a13 a14 a15 a16 x : Option Value} {L : am_L} : (17 < List.length (a0 :: a1 :: a2 :: a3 :: a4 :: a5 :: a6 :: a7 :: a8 :: a9 :: a10 :: a11 :: a12 :: a13 :: a14 :: a15 :: a16 :: x :: L)) = True := by simp
theorem am_st1_17 {L : am_L} {v : Value} : am_st1 L 17 v = List.set (am_kk (am_ld L 16) L 16) 17 (some v) := rfl
theorem am_st2_17 {L : am_L} {v : Value} : am_st2 L 17 v = List.set (List.set (am_kk (am_ld L 16) L 16) 17 (some v)) 18 none := rfl
theorem am_ld_18 {a0 a1 a2 a3 a4 a5 a6 a7 a8 a9 a10 a11 a12 a13 a14 a15 a16 a17 x : Option Value} {L : am_L} : am_ld (a0 :: a1 :: a2 :: a3 :: a4 :: a5 :: a6 :: a7 :: a8 :: a9 :: a10 :: a11 :: a12 :: a13 :: a14 :: a15 :: a16 :: a17 :: x :: L) 18 = x := rfl
theorem am_set_18 {a0 a1 a2 a3 a4 a5 a6 a7 a8 a9 a10 a11 a12 a13 a14 a15 a16 a17 x y : Option Value} {L : am_L} : List.set (a0 :: a1 :: a2 :: a3 :: a4 :: a5 :: a6 :: a7 :: a8 :: a9 :: a10 :: a11 :: a12 :: a13 :: a14 :: a15 :: a16 :: a17 :: x :: L) 18 y = a0 :: a1 :: a2 :: a3 :: a4 :: a5 :: a6 :: a7 :: a8 :: a9 :: a10 :: a11 :: a12 :: a13 :: a14 :: a15 :: a16 :: a17 :: y :: L := rfl
theorem am_lnl_18 {a0 a1 a2 a3 a4 a5 a6 a7 a8 a9 a10 a11 a12 a13 a14 a15 a16 a17 x : Option Value} {L : am_L} : (18 < List.length (a0 :: a1 :: a2 :: a3 :: a4 :: a5 :: a6 :: a7 :: a8 :: a9 :: a10 :: a11 :: a12 :: a13 :: a14 :: a15 :: a16 :: a17 :: x :: L)) = True := by simp
theorem am_st1_18 {L : am_L} {v : Value} : am_st1 L 18 v = List.set (am_kk (am_ld L 17) L 17) 18 (some v) := rfl
theorem am_st2_18 {L : am_L} {v : Value} : am_st2 L 18 v = List.set (List.set (am_kk (am_ld L 17) L 17) 18 (some v)) 19 none := rfl
theorem am_ld_19 {a0 a1 a2 a3 a4 a5 a6 a7 a8 a9 a10 a11 a12 a13 a14 a15 a16 a17 a18 x : Option Value} {L : am_L} : am_ld (a0 :: a1 :: a2 :: a3 :: a4 :: a5 :: a6 :: a7 :: a8 :: a9 :: a10 :: a11 :: a12 :: a13 :: a14 :: a15 :: a16 :: a17 :: a18 :: x :: L) 19 = x := rfl
theorem am_set_19 {a0 a1 a2 a3 a4 a5 a6 a7 a8 a9 a10 a11 a12 a13 a14 a15 a16 a17 a18 x y : Option Value} {L : am_L} : List.set (a0 :: a1 :: a2 :: a3 :: a4 :: a5 :: a6 :: a7 :: a8 :: a9 :: a10 :: a11 :: a12 :: a13 :: a14 :: a15 :: a16 :: a17 :: a18 :: x :: L) 19 y = a0 :: a1 :: a2 :: a3 :: a4 :: a5 :: a6 :: a7 :: a8 :: a9 :: a10 :: a11 :: a12 :: a13 :: a14 :: a15 :: a16 :: a17 :: a18 :: y :: L := rfl
theorem am_lnl_19 {a0 a1 a2 a3 a4 a5 a6 a7 a8 a9 a10 a11 a12 a13 a14 a15 a16 a17 a18 x : Option Value} {L : am_L} : (19 < List.length (a0 :: a1 :: a2 :: a3 :: a4 :: a5 :: a6 :: a7 :: a8 :: a9 :: a10 :: a11 :: a12 :: a13 :: a14 :: a15 :: a16 :: a17 :: a18 :: x :: L)) = True := by simp
theorem am_st1_19 {L : am_L} {v : Value} : am_st1 L 19 v = List.set (am_kk (am_ld L 18) L 18) 19 (some v) := rfl
theorem am_st2_19 {L : am_L} {v : Value} : am_st2 L 19 v = List.set (List.set (am_kk (am_ld L 18) L 18) 19 (some v)) 20 none := rfl
theorem am_ld_20 {a0 a1 a2 a3 a4 a5 a6 a7 a8 a9 a10 a11 a12 a13 a14 a15 a16 a17 a18 a19 x : Option Value} {L : am_L} : am_ld (a0 :: a1 :: a2 :: a3 :: a4 :: a5 :: a6 :: a7 :: a8 :: a9 :: a10 :: a11 :: a12 :: a13 :: a14 :: a15 :: a16 :: a17 :: a18 :: a19 :: x :: L) 20 = x := rfl
theorem am_set_20 {a0 a1 a2 a3 a4 a5 a6 a7 a8 a9 a10 a11 a12 a13 a14 a15 a16 a17 a18 a19 x y : Option Value} {L : am_L} : List.set (a0 :: a1 :: a2 :: a3 :: a4 :: a5 :: a6 :: a7 :: a8 :: a9 :: a10 :: a11 :: a12 :: a13 :: a14 :: a15 :: a16 :: a17 :: a18 :: a19 :: x :: L) 20 y = a0 :: a1 :: a2 :: a3 :: a4 :: a5 :: a6 :: a7 :: a8 :: a9 :: a10 :: a11 :: a12 :: a13 :: a14 :: a15 :: a16 :: a17 :: a18 :: a19 :: y :: L := rfl
theorem am_lnl_20 {a0 a1 a2 a3 a4 a5 a6 a7 a8 a9 a10 a11 a12 a13 a14 a15 a16 a17 a18 a19 x : Option Value} {L : am_L} : (20 < List.length (a0 :: a1 :: a2 :: a3 :: a4 :: a5 :: a6 :: a7 :: a8 :: a9 :: a10 :: a11 :: a12 :: a13 :: a14 :: a15 :: a16 :: a17 :: a18 :: a19 :: x :: L)) = True := by simp
theorem am_st1_20 {L : am_L} {v : Value} : am_st1 L 20 v = List.set (am_kk (am_ld L 19) L 19) 20 (some v) := rfl
theorem am_st2_20 {L : am_L} {v : Value} : am_st2 L 20 v = List.set (List.set (am_kk (am_ld L 19) L 19) 20 (some v)) 21 none := rfl
theorem am_ld_21 {a0 a1 a2 a3 a4 a5 a6 a7 a8 a9 a10 a11 a12 a13 a14 a15 a16 a17 a18 a19 a20 x : Option Value} {L : am_L} : am_ld (a0 :: a1 :: a2 :: a3 :: a4 :: a5 :: a6 :: a7 :: a8 :: a9 :: a10 :: a11 :: a12 :: a13 :: a14 :: a15 :: a16 :: a17 :: a18 :: a19 :: a20 :: x :: L) 21 = x := rfl
theorem am_set_21 {a0 a1 a2 a3 a4 a5 a6 a7 a8 a9 a10 a11 a12 a13 a14 a15 a16 a17 a18 a19 a20 x y : Option Value} {L : am_L} : List.set (a0 :: a1 :: a2 :: a3 :: a4 :: a5 :: a6 :: a7 :: a8 :: a9 :: a10 :: a11 :: a12 :: a13 :: a14 :: a15 :: a16 :: a17 :: a18 :: a19 :: a20 :: x :: L) 21 y = a0 :: a1 :: a2 :: a3 :: a4 :: a5 :: a6 :: a7 :: a8 :: a9 :: a10 :: a11 :: a12 :: a13 :: a14 :: a15 :: a16 :: a17 :: a18 :: a19 :: a20 :: y :: L := rfl
theorem am_lnl_21 {a0 a1 a2 a3 a4 a5 a6 a7 a8 a9 a10 a11 a12 a13 a14 a15 a16 a17 a18 a19 a20 x : Option Value} {L : am_L} : (21 < List.length (a0 :: a1 :: a2 :: a3 :: a4 :: a5 :: a6 :: a7 :: a8 :: a9 :: a10 :: a11 :: a12 :: a13 :: a14 :: a15 :: a16 :: a17 :: a18 :: a19 :: a20 :: x :: L)) = True := by simp
theorem am_st1_21 {L : am_L} {v : Value} : am_st1 L 21 v = List.set (am_kk (am_ld L 20) L 20) 21 (some v) := rfl
theorem am_st2_21 {L : am_L} {v : Value} : am_st2 L 21 v = List.set (List.set (am_kk (am_ld L 20) L 20) 21 (some v)) 22 none := rfl
theorem am_dx_aaload {G : am_G} {pc : Nat} {L : am_L} {st : List Value} {h : am_H} : am_dx G (.ok (.aaload, 1)) pc L st h = am_ri st fun k i r => if (am_kd k).1 = 23 ∨ (am_kd k).1 = 24 ∨ (am_kd k).1 = 25 then am_ix i (am_kd k).2 (am_nx (pc + 1) L (.ref (am_gr k i.toNatClampNeg) :: r) h) else none := rfl
theorem am_dx_aload_4 {G : am_G} {pc : Nat} {L : am_L} {st : List Value} {h : am_H} : am_dx G (.ok (.aload 4, 2)) pc L st h = am_vr (am_ld L 4) fun x => am_nx (pc + 2) L (.ref x :: st) h := rfl
theorem am_dx_aload_5 {G : am_G} {pc : Nat} {L : am_L} {st : List Value} {h : am_H} : am_dx G (.ok (.aload 5, 2)) pc L st h = am_vr (am_ld L 5) fun x => am_nx (pc + 2) L (.ref x :: st) h := rfl
theorem am_dx_aload_6 {G : am_G} {pc : Nat} {L : am_L} {st : List Value} {h : am_H} : am_dx G (.ok (.aload 6, 2)) pc L st h = am_vr (am_ld L 6) fun x => am_nx (pc + 2) L (.ref x :: st) h := rfl
theorem am_dx_aload_n_0 {G : am_G} {pc : Nat} {L : am_L} {st : List Value} {h : am_H} : am_dx G (.ok (.aload_n 0, 1)) pc L st h = am_vr (am_ld L 0) fun x => am_nx (pc + 1) L (.ref x :: st) h := rfl
theorem am_dx_aload_n_1 {G : am_G} {pc : Nat} {L : am_L} {st : List Value} {h : am_H} : am_dx G (.ok (.aload_n 1, 1)) pc L st h = am_vr (am_ld L 1) fun x => am_nx (pc + 1) L (.ref x :: st) h := rfl
theorem am_dx_aload_n_2 {G : am_G} {pc : Nat} {L : am_L} {st : List Value} {h : am_H} : am_dx G (.ok (.aload_n 2, 1)) pc L st h = am_vr (am_ld L 2) fun x => am_nx (pc + 1) L (.ref x :: st) h := rfl
theorem am_dx_aload_n_3 {G : am_G} {pc : Nat} {L : am_L} {st : List Value} {h : am_H} : am_dx G (.ok (.aload_n 3, 1)) pc L st h = am_vr (am_ld L 3) fun x => am_nx (pc + 1) L (.ref x :: st) h := rfl
theorem am_dx_arraylength {G : am_G} {pc : Nat} {L : am_L} {st : List Value} {h : am_H} : am_dx G (.ok (.arraylength, 1)) pc L st h = am_1r st fun k r => if (am_kd k).1 = 20 then am_nx (pc + 1) L (.int (Int32.ofNat (am_kd k).2) :: r) h else none := rfl
theorem am_dx_astore_5 {G : am_G} {pc : Nat} {L : am_L} {st : List Value} {h : am_H} : am_dx G (.ok (.astore 5, 2)) pc L st h = am_1r st fun x r => if 5 < L.length then am_nx (pc + 2) (am_st1 L 5 (.ref x)) r h else none := rfl
theorem am_dx_astore_6 {G : am_G} {pc : Nat} {L : am_L} {st : List Value} {h : am_H} : am_dx G (.ok (.astore 6, 2)) pc L st h = am_1r st fun x r => if 6 < L.length then am_nx (pc + 2) (am_st1 L 6 (.ref x)) r h else none := rfl
theorem am_dx_astore_n_1 {G : am_G} {pc : Nat} {L : am_L} {st : List Value} {h : am_H} : am_dx G (.ok (.astore_n 1, 1)) pc L st h = am_1r st fun x r => if 1 < L.length then am_nx (pc + 1) (am_st1 L 1 (.ref x)) r h else none := rfl
theorem am_dx_astore_n_2 {G : am_G} {pc : Nat} {L : am_L} {st : List Value} {h : am_H} : am_dx G (.ok (.astore_n 2, 1)) pc L st h = am_1r st fun x r => if 2 < L.length then am_nx (pc + 1) (am_st1 L 2 (.ref x)) r h else none := rfl
theorem am_dx_baload {G : am_G} {pc : Nat} {L : am_L} {st : List Value} {h : am_H} : am_dx G (.ok (.baload, 1)) pc L st h = am_ri st fun k i r => if (am_kd k).1 = 22 then am_ix i (am_kd k).2 (am_nx (pc + 1) L (.int (h.1 k i.toNatClampNeg) :: r) h) else none := rfl
theorem am_dx_bastore {G : am_G} {pc : Nat} {L : am_L} {st : List Value} {h : am_H} : am_dx G (.ok (.bastore, 1)) pc L st h = am_rii st fun k i x r => if (am_kd k).1 = 22 then am_ix i (am_kd k).2 (if x = 0 ∨ x = 1 then am_nx (pc + 1) L r (am_ui h k i.toNatClampNeg x) else none) else none := rfl
theorem am_dx_bipush_m11 {G : am_G} {pc : Nat} {L : am_L} {st : List Value} {h : am_H} : am_dx G (.ok (.bipush (-11), 2)) pc L st h = am_nx (pc + 2) L (.int (-11) :: st) h := rfl
theorem am_dx_bipush_m13 {G : am_G} {pc : Nat} {L : am_L} {st : List Value} {h : am_H} : am_dx G (.ok (.bipush (-13), 2)) pc L st h = am_nx (pc + 2) L (.int (-13) :: st) h := rfl
theorem am_dx_bipush_m14 {G : am_G} {pc : Nat} {L : am_L} {st : List Value} {h : am_H} : am_dx G (.ok (.bipush (-14), 2)) pc L st h = am_nx (pc + 2) L (.int (-14) :: st) h := rfl
theorem am_dx_bipush_m15 {G : am_G} {pc : Nat} {L : am_L} {st : List Value} {h : am_H} : am_dx G (.ok (.bipush (-15), 2)) pc L st h = am_nx (pc + 2) L (.int (-15) :: st) h := rfl
theorem am_dx_bipush_m2 {G : am_G} {pc : Nat} {L : am_L} {st : List Value} {h : am_H} : am_dx G (.ok (.bipush (-2), 2)) pc L st h = am_nx (pc + 2) L (.int (-2) :: st) h := rfl
theorem am_dx_bipush_m23 {G : am_G} {pc : Nat} {L : am_L} {st : List Value} {h : am_H} : am_dx G (.ok (.bipush (-23), 2)) pc L st h = am_nx (pc + 2) L (.int (-23) :: st) h := rfl
theorem am_dx_bipush_m24 {G : am_G} {pc : Nat} {L : am_L} {st : List Value} {h : am_H} : am_dx G (.ok (.bipush (-24), 2)) pc L st h = am_nx (pc + 2) L (.int (-24) :: st) h := rfl
theorem am_dx_bipush_m3 {G : am_G} {pc : Nat} {L : am_L} {st : List Value} {h : am_H} : am_dx G (.ok (.bipush (-3), 2)) pc L st h = am_nx (pc + 2) L (.int (-3) :: st) h := rfl
theorem am_dx_bipush_m4 {G : am_G} {pc : Nat} {L : am_L} {st : List Value} {h : am_H} : am_dx G (.ok (.bipush (-4), 2)) pc L st h = am_nx (pc + 2) L (.int (-4) :: st) h := rfl
theorem am_dx_bipush_m9 {G : am_G} {pc : Nat} {L : am_L} {st : List Value} {h : am_H} : am_dx G (.ok (.bipush (-9), 2)) pc L st h = am_nx (pc + 2) L (.int (-9) :: st) h := rfl
theorem am_dx_bipush_10 {G : am_G} {pc : Nat} {L : am_L} {st : List Value} {h : am_H} : am_dx G (.ok (.bipush 10, 2)) pc L st h = am_nx (pc + 2) L (.int 10 :: st) h := rfl
theorem am_dx_bipush_100 {G : am_G} {pc : Nat} {L : am_L} {st : List Value} {h : am_H} : am_dx G (.ok (.bipush 100, 2)) pc L st h = am_nx (pc + 2) L (.int 100 :: st) h := rfl
theorem am_dx_bipush_127 {G : am_G} {pc : Nat} {L : am_L} {st : List Value} {h : am_H} : am_dx G (.ok (.bipush 127, 2)) pc L st h = am_nx (pc + 2) L (.int 127 :: st) h := rfl
theorem am_dx_bipush_16 {G : am_G} {pc : Nat} {L : am_L} {st : List Value} {h : am_H} : am_dx G (.ok (.bipush 16, 2)) pc L st h = am_nx (pc + 2) L (.int 16 :: st) h := rfl
theorem am_dx_bipush_23 {G : am_G} {pc : Nat} {L : am_L} {st : List Value} {h : am_H} : am_dx G (.ok (.bipush 23, 2)) pc L st h = am_nx (pc + 2) L (.int 23 :: st) h := rfl
theorem am_dx_bipush_24 {G : am_G} {pc : Nat} {L : am_L} {st : List Value} {h : am_H} : am_dx G (.ok (.bipush 24, 2)) pc L st h = am_nx (pc + 2) L (.int 24 :: st) h := rfl
theorem am_dx_bipush_31 {G : am_G} {pc : Nat} {L : am_L} {st : List Value} {h : am_H} : am_dx G (.ok (.bipush 31, 2)) pc L st h = am_nx (pc + 2) L (.int 31 :: st) h := rfl
theorem am_dx_bipush_32 {G : am_G} {pc : Nat} {L : am_L} {st : List Value} {h : am_H} : am_dx G (.ok (.bipush 32, 2)) pc L st h = am_nx (pc + 2) L (.int 32 :: st) h := rfl
theorem am_dx_bipush_40 {G : am_G} {pc : Nat} {L : am_L} {st : List Value} {h : am_H} : am_dx G (.ok (.bipush 40, 2)) pc L st h = am_nx (pc + 2) L (.int 40 :: st) h := rfl
theorem am_dx_bipush_50 {G : am_G} {pc : Nat} {L : am_L} {st : List Value} {h : am_H} : am_dx G (.ok (.bipush 50, 2)) pc L st h = am_nx (pc + 2) L (.int 50 :: st) h := rfl
theorem am_dx_bipush_56 {G : am_G} {pc : Nat} {L : am_L} {st : List Value} {h : am_H} : am_dx G (.ok (.bipush 56, 2)) pc L st h = am_nx (pc + 2) L (.int 56 :: st) h := rfl
theorem am_dx_bipush_6 {G : am_G} {pc : Nat} {L : am_L} {st : List Value} {h : am_H} : am_dx G (.ok (.bipush 6, 2)) pc L st h = am_nx (pc + 2) L (.int 6 :: st) h := rfl
theorem am_dx_bipush_64 {G : am_G} {pc : Nat} {L : am_L} {st : List Value} {h : am_H} : am_dx G (.ok (.bipush 64, 2)) pc L st h = am_nx (pc + 2) L (.int 64 :: st) h := rfl
theorem am_dx_bipush_7 {G : am_G} {pc : Nat} {L : am_L} {st : List Value} {h : am_H} : am_dx G (.ok (.bipush 7, 2)) pc L st h = am_nx (pc + 2) L (.int 7 :: st) h := rfl
theorem am_dx_bipush_8 {G : am_G} {pc : Nat} {L : am_L} {st : List Value} {h : am_H} : am_dx G (.ok (.bipush 8, 2)) pc L st h = am_nx (pc + 2) L (.int 8 :: st) h := rfl
theorem am_dx_dup_i {G : am_G} {pc : Nat} {L : am_L} {r : List Value} {h : am_H} {x : Int32} : am_dx G (.ok (.dup, 1)) pc L (.int x :: r) h = am_nx (pc + 1) L (.int x :: .int x :: r) h := rfl
theorem am_dx_dup_r {G : am_G} {pc : Nat} {L : am_L} {r : List Value} {h : am_H} {x : Nat} : am_dx G (.ok (.dup, 1)) pc L (.ref x :: r) h = am_nx (pc + 1) L (.ref x :: .ref x :: r) h := rfl
theorem am_dx_dup2 {G : am_G} {pc : Nat} {L : am_L} {st : List Value} {h : am_H} : am_dx G (.ok (.dup2, 1)) pc L st h = am_ri st fun a i r => am_nx (pc + 1) L (.int i :: .ref a :: .int i :: .ref a :: r) h := rfl
theorem am_dx_getfield {G : am_G} {pc : Nat} {L : am_L} {st : List Value} {h : am_H} {q : Nat} : am_dx G (.ok (.getfield q, 3)) pc L st h = am_1r st fun k r => am_ob (G.1 q) fun z => if (am_kd k).1 = z.1 then am_nx (pc + 3) L (am_fr z.1 z.2 k h :: r) h else none := rfl
theorem am_dx_getstatic {G : am_G} {pc : Nat} {L : am_L} {st : List Value} {h : am_H} {q : Nat} : am_dx G (.ok (.getstatic q, 3)) pc L st h = am_ob (G.2.2.1 q) fun k => am_nx (pc + 3) L (.ref k :: st) h := rfl
theorem am_dx_goto {G : am_G} {pc : Nat} {L : am_L} {st : List Value} {h : am_H} {off : Int} : am_dx G (.ok (.goto off, 3)) pc L st h = am_jp pc off L st h := rfl
theorem am_dx_i2l {G : am_G} {pc : Nat} {L : am_L} {st : List Value} {h : am_H} : am_dx G (.ok (.i2l, 1)) pc L st h = am_1i st fun x r => am_nx (pc + 1) L (.long x.toInt64 :: r) h := rfl
theorem am_dx_iadd {G : am_G} {pc : Nat} {L : am_L} {st : List Value} {h : am_H} : am_dx G (.ok (.iadd, 1)) pc L st h = am_2i st fun x y r => am_nx (pc + 1) L (.int (x + y) :: r) h := rfl
theorem am_dx_iaload {G : am_G} {pc : Nat} {L : am_L} {st : List Value} {h : am_H} : am_dx G (.ok (.iaload, 1)) pc L st h = am_ri st fun k i r => if (am_kd k).1 = 20 then am_ix i (am_kd k).2 (am_nx (pc + 1) L (.int (h.1 k i.toNatClampNeg) :: r) h) else if (am_kd k).1 = 30 then am_ix i (am_kd k).2 (am_nx (pc + 1) L (.int (am_rc k i.toNatClampNeg) :: r) h) else none := rfl
theorem am_dx_iand {G : am_G} {pc : Nat} {L : am_L} {st : List Value} {h : am_H} : am_dx G (.ok (.iand, 1)) pc L st h = am_2i st fun x y r => am_nx (pc + 1) L (.int (x &&& y) :: r) h := rfl
theorem am_dx_iastore {G : am_G} {pc : Nat} {L : am_L} {st : List Value} {h : am_H} : am_dx G (.ok (.iastore, 1)) pc L st h = am_rii st fun k i x r => if (am_kd k).1 = 20 then am_ix i (am_kd k).2 (am_nx (pc + 1) L r (am_ui h k i.toNatClampNeg x)) else none := rfl
theorem am_dx_iconst_m1 {G : am_G} {pc : Nat} {L : am_L} {st : List Value} {h : am_H} : am_dx G (.ok (.iconst (-1), 1)) pc L st h = am_nx (pc + 1) L (.int (-1) :: st) h := rfl
theorem am_dx_iconst_0 {G : am_G} {pc : Nat} {L : am_L} {st : List Value} {h : am_H} : am_dx G (.ok (.iconst 0, 1)) pc L st h = am_nx (pc + 1) L (.int 0 :: st) h := rfl
theorem am_dx_iconst_1 {G : am_G} {pc : Nat} {L : am_L} {st : List Value} {h : am_H} : am_dx G (.ok (.iconst 1, 1)) pc L st h = am_nx (pc + 1) L (.int 1 :: st) h := rfl
theorem am_dx_iconst_2 {G : am_G} {pc : Nat} {L : am_L} {st : List Value} {h : am_H} : am_dx G (.ok (.iconst 2, 1)) pc L st h = am_nx (pc + 1) L (.int 2 :: st) h := rfl
theorem am_dx_iconst_3 {G : am_G} {pc : Nat} {L : am_L} {st : List Value} {h : am_H} : am_dx G (.ok (.iconst 3, 1)) pc L st h = am_nx (pc + 1) L (.int 3 :: st) h := rfl
theorem am_dx_iconst_4 {G : am_G} {pc : Nat} {L : am_L} {st : List Value} {h : am_H} : am_dx G (.ok (.iconst 4, 1)) pc L st h = am_nx (pc + 1) L (.int 4 :: st) h := rfl
theorem am_dx_iconst_5 {G : am_G} {pc : Nat} {L : am_L} {st : List Value} {h : am_H} : am_dx G (.ok (.iconst 5, 1)) pc L st h = am_nx (pc + 1) L (.int 5 :: st) h := rfl
theorem am_dx_idiv {G : am_G} {pc : Nat} {L : am_L} {st : List Value} {h : am_H} : am_dx G (.ok (.idiv, 1)) pc L st h = am_2i st fun x y r => if y = 0 then none else am_nx (pc + 1) L (.int (x / y) :: r) h := rfl
theorem am_dx_ifCond_eq {G : am_G} {pc : Nat} {L : am_L} {st : List Value} {h : am_H} {off : Int} : am_dx G (.ok (.ifCond .eq off, 3)) pc L st h = if 0 ≤ (pc : Int) + off then am_1i st fun x r => if x = 0 then am_nx ((pc : Int) + off).toNat L r h else am_nx (pc + 3) L r h else none := by by_cases z : 0 ≤ (pc : Int) + off <;> simp [am_dx, am_ex, am_len, am_cd, am_jp, z]
theorem am_dx_ifCond_ge {G : am_G} {pc : Nat} {L : am_L} {st : List Value} {h : am_H} {off : Int} : am_dx G (.ok (.ifCond .ge off, 3)) pc L st h = if 0 ≤ (pc : Int) + off then am_1i st fun x r => if 0 ≤ x then am_nx ((pc : Int) + off).toNat L r h else am_nx (pc + 3) L r h else none := by by_cases z : 0 ≤ (pc : Int) + off <;> simp [am_dx, am_ex, am_len, am_cd, am_jp, z]
theorem am_dx_ifCond_gt {G : am_G} {pc : Nat} {L : am_L} {st : List Value} {h : am_H} {off : Int} : am_dx G (.ok (.ifCond .gt off, 3)) pc L st h = if 0 ≤ (pc : Int) + off then am_1i st fun x r => if 0 < x then am_nx ((pc : Int) + off).toNat L r h else am_nx (pc + 3) L r h else none := by by_cases z : 0 ≤ (pc : Int) + off <;> simp [am_dx, am_ex, am_len, am_cd, am_jp, z]
theorem am_dx_ifCond_le {G : am_G} {pc : Nat} {L : am_L} {st : List Value} {h : am_H} {off : Int} : am_dx G (.ok (.ifCond .le off, 3)) pc L st h = if 0 ≤ (pc : Int) + off then am_1i st fun x r => if x ≤ 0 then am_nx ((pc : Int) + off).toNat L r h else am_nx (pc + 3) L r h else none := by by_cases z : 0 ≤ (pc : Int) + off <;> simp [am_dx, am_ex, am_len, am_cd, am_jp, z]
theorem am_dx_ifCond_lt {G : am_G} {pc : Nat} {L : am_L} {st : List Value} {h : am_H} {off : Int} : am_dx G (.ok (.ifCond .lt off, 3)) pc L st h = if 0 ≤ (pc : Int) + off then am_1i st fun x r => if x < 0 then am_nx ((pc : Int) + off).toNat L r h else am_nx (pc + 3) L r h else none := by by_cases z : 0 ≤ (pc : Int) + off <;> simp [am_dx, am_ex, am_len, am_cd, am_jp, z]
theorem am_dx_ifCond_ne {G : am_G} {pc : Nat} {L : am_L} {st : List Value} {h : am_H} {off : Int} : am_dx G (.ok (.ifCond .ne off, 3)) pc L st h = if 0 ≤ (pc : Int) + off then am_1i st fun x r => if ¬ x = 0 then am_nx ((pc : Int) + off).toNat L r h else am_nx (pc + 3) L r h else none := by by_cases z : 0 ≤ (pc : Int) + off <;> simp [am_dx, am_ex, am_len, am_cd, am_jp, z]
theorem am_dx_if_icmp_eq {G : am_G} {pc : Nat} {L : am_L} {st : List Value} {h : am_H} {off : Int} : am_dx G (.ok (.if_icmp .eq off, 3)) pc L st h = if 0 ≤ (pc : Int) + off then am_2i st fun x y r => if x = y then am_nx ((pc : Int) + off).toNat L r h else am_nx (pc + 3) L r h else none := by by_cases z : 0 ≤ (pc : Int) + off <;> simp [am_dx, am_ex, am_len, am_cd, am_jp, z]
theorem am_dx_if_icmp_ge {G : am_G} {pc : Nat} {L : am_L} {st : List Value} {h : am_H} {off : Int} : am_dx G (.ok (.if_icmp .ge off, 3)) pc L st h = if 0 ≤ (pc : Int) + off then am_2i st fun x y r => if y ≤ x then am_nx ((pc : Int) + off).toNat L r h else am_nx (pc + 3) L r h else none := by by_cases z : 0 ≤ (pc : Int) + off <;> simp [am_dx, am_ex, am_len, am_cd, am_jp, z]
theorem am_dx_if_icmp_gt {G : am_G} {pc : Nat} {L : am_L} {st : List Value} {h : am_H} {off : Int} : am_dx G (.ok (.if_icmp .gt off, 3)) pc L st h = if 0 ≤ (pc : Int) + off then am_2i st fun x y r => if y < x then am_nx ((pc : Int) + off).toNat L r h else am_nx (pc + 3) L r h else none := by by_cases z : 0 ≤ (pc : Int) + off <;> simp [am_dx, am_ex, am_len, am_cd, am_jp, z]
theorem am_dx_if_icmp_le {G : am_G} {pc : Nat} {L : am_L} {st : List Value} {h : am_H} {off : Int} : am_dx G (.ok (.if_icmp .le off, 3)) pc L st h = if 0 ≤ (pc : Int) + off then am_2i st fun x y r => if x ≤ y then am_nx ((pc : Int) + off).toNat L r h else am_nx (pc + 3) L r h else none := by by_cases z : 0 ≤ (pc : Int) + off <;> simp [am_dx, am_ex, am_len, am_cd, am_jp, z]
theorem am_dx_if_icmp_lt {G : am_G} {pc : Nat} {L : am_L} {st : List Value} {h : am_H} {off : Int} : am_dx G (.ok (.if_icmp .lt off, 3)) pc L st h = if 0 ≤ (pc : Int) + off then am_2i st fun x y r => if x < y then am_nx ((pc : Int) + off).toNat L r h else am_nx (pc + 3) L r h else none := by by_cases z : 0 ≤ (pc : Int) + off <;> simp [am_dx, am_ex, am_len, am_cd, am_jp, z]
theorem am_dx_if_icmp_ne {G : am_G} {pc : Nat} {L : am_L} {st : List Value} {h : am_H} {off : Int} : am_dx G (.ok (.if_icmp .ne off, 3)) pc L st h = if 0 ≤ (pc : Int) + off then am_2i st fun x y r => if ¬ x = y then am_nx ((pc : Int) + off).toNat L r h else am_nx (pc + 3) L r h else none := by by_cases z : 0 ≤ (pc : Int) + off <;> simp [am_dx, am_ex, am_len, am_cd, am_jp, z]
theorem am_dx_iinc_1_1 {G : am_G} {pc : Nat} {L : am_L} {st : List Value} {h : am_H} : am_dx G (.ok (.iinc 1 1, 3)) pc L st h = am_vi (am_ld L 1) fun x => if 1 < L.length then am_nx (pc + 3) (am_st1 L 1 (.int (x + 1))) st h else none := rfl
theorem am_dx_iinc_2_m1 {G : am_G} {pc : Nat} {L : am_L} {st : List Value} {h : am_H} : am_dx G (.ok (.iinc 2 (-1), 3)) pc L st h = am_vi (am_ld L 2) fun x => if 2 < L.length then am_nx (pc + 3) (am_st1 L 2 (.int (x + (-1)))) st h else none := rfl
theorem am_dx_iinc_2_1 {G : am_G} {pc : Nat} {L : am_L} {st : List Value} {h : am_H} : am_dx G (.ok (.iinc 2 1, 3)) pc L st h = am_vi (am_ld L 2) fun x => if 2 < L.length then am_nx (pc + 3) (am_st1 L 2 (.int (x + 1))) st h else none := rfl
theorem am_dx_iinc_3_1 {G : am_G} {pc : Nat} {L : am_L} {st : List Value} {h : am_H} : am_dx G (.ok (.iinc 3 1, 3)) pc L st h = am_vi (am_ld L 3) fun x => if 3 < L.length then am_nx (pc + 3) (am_st1 L 3 (.int (x + 1))) st h else none := rfl
theorem am_dx_iinc_3_6 {G : am_G} {pc : Nat} {L : am_L} {st : List Value} {h : am_H} : am_dx G (.ok (.iinc 3 6, 3)) pc L st h = am_vi (am_ld L 3) fun x => if 3 < L.length then am_nx (pc + 3) (am_st1 L 3 (.int (x + 6))) st h else none := rfl
theorem am_dx_iinc_4_1 {G : am_G} {pc : Nat} {L : am_L} {st : List Value} {h : am_H} : am_dx G (.ok (.iinc 4 1, 3)) pc L st h = am_vi (am_ld L 4) fun x => if 4 < L.length then am_nx (pc + 3) (am_st1 L 4 (.int (x + 1))) st h else none := rfl
theorem am_dx_iinc_5_1 {G : am_G} {pc : Nat} {L : am_L} {st : List Value} {h : am_H} : am_dx G (.ok (.iinc 5 1, 3)) pc L st h = am_vi (am_ld L 5) fun x => if 5 < L.length then am_nx (pc + 3) (am_st1 L 5 (.int (x + 1))) st h else none := rfl
theorem am_dx_iinc_6_1 {G : am_G} {pc : Nat} {L : am_L} {st : List Value} {h : am_H} : am_dx G (.ok (.iinc 6 1, 3)) pc L st h = am_vi (am_ld L 6) fun x => if 6 < L.length then am_nx (pc + 3) (am_st1 L 6 (.int (x + 1))) st h else none := rfl
theorem am_dx_iinc_7_1 {G : am_G} {pc : Nat} {L : am_L} {st : List Value} {h : am_H} : am_dx G (.ok (.iinc 7 1, 3)) pc L st h = am_vi (am_ld L 7) fun x => if 7 < L.length then am_nx (pc + 3) (am_st1 L 7 (.int (x + 1))) st h else none := rfl
theorem am_dx_iinc_8_1 {G : am_G} {pc : Nat} {L : am_L} {st : List Value} {h : am_H} : am_dx G (.ok (.iinc 8 1, 3)) pc L st h = am_vi (am_ld L 8) fun x => if 8 < L.length then am_nx (pc + 3) (am_st1 L 8 (.int (x + 1))) st h else none := rfl
theorem am_dx_iinc_9_1 {G : am_G} {pc : Nat} {L : am_L} {st : List Value} {h : am_H} : am_dx G (.ok (.iinc 9 1, 3)) pc L st h = am_vi (am_ld L 9) fun x => if 9 < L.length then am_nx (pc + 3) (am_st1 L 9 (.int (x + 1))) st h else none := rfl
theorem am_dx_iload_4 {G : am_G} {pc : Nat} {L : am_L} {st : List Value} {h : am_H} : am_dx G (.ok (.iload 4, 2)) pc L st h = am_vi (am_ld L 4) fun x => am_nx (pc + 2) L (.int x :: st) h := rfl
theorem am_dx_iload_5 {G : am_G} {pc : Nat} {L : am_L} {st : List Value} {h : am_H} : am_dx G (.ok (.iload 5, 2)) pc L st h = am_vi (am_ld L 5) fun x => am_nx (pc + 2) L (.int x :: st) h := rfl
theorem am_dx_iload_6 {G : am_G} {pc : Nat} {L : am_L} {st : List Value} {h : am_H} : am_dx G (.ok (.iload 6, 2)) pc L st h = am_vi (am_ld L 6) fun x => am_nx (pc + 2) L (.int x :: st) h := rfl
theorem am_dx_iload_7 {G : am_G} {pc : Nat} {L : am_L} {st : List Value} {h : am_H} : am_dx G (.ok (.iload 7, 2)) pc L st h = am_vi (am_ld L 7) fun x => am_nx (pc + 2) L (.int x :: st) h := rfl
theorem am_dx_iload_8 {G : am_G} {pc : Nat} {L : am_L} {st : List Value} {h : am_H} : am_dx G (.ok (.iload 8, 2)) pc L st h = am_vi (am_ld L 8) fun x => am_nx (pc + 2) L (.int x :: st) h := rfl
theorem am_dx_iload_9 {G : am_G} {pc : Nat} {L : am_L} {st : List Value} {h : am_H} : am_dx G (.ok (.iload 9, 2)) pc L st h = am_vi (am_ld L 9) fun x => am_nx (pc + 2) L (.int x :: st) h := rfl
theorem am_dx_iload_n_0 {G : am_G} {pc : Nat} {L : am_L} {st : List Value} {h : am_H} : am_dx G (.ok (.iload_n 0, 1)) pc L st h = am_vi (am_ld L 0) fun x => am_nx (pc + 1) L (.int x :: st) h := rfl
theorem am_dx_iload_n_1 {G : am_G} {pc : Nat} {L : am_L} {st : List Value} {h : am_H} : am_dx G (.ok (.iload_n 1, 1)) pc L st h = am_vi (am_ld L 1) fun x => am_nx (pc + 1) L (.int x :: st) h := rfl
theorem am_dx_iload_n_2 {G : am_G} {pc : Nat} {L : am_L} {st : List Value} {h : am_H} : am_dx G (.ok (.iload_n 2, 1)) pc L st h = am_vi (am_ld L 2) fun x => am_nx (pc + 1) L (.int x :: st) h := rfl
theorem am_dx_iload_n_3 {G : am_G} {pc : Nat} {L : am_L} {st : List Value} {h : am_H} : am_dx G (.ok (.iload_n 3, 1)) pc L st h = am_vi (am_ld L 3) fun x => am_nx (pc + 1) L (.int x :: st) h := rfl
theorem am_dx_imul {G : am_G} {pc : Nat} {L : am_L} {st : List Value} {h : am_H} : am_dx G (.ok (.imul, 1)) pc L st h = am_2i st fun x y r => am_nx (pc + 1) L (.int (x * y) :: r) h := rfl
theorem am_dx_ineg {G : am_G} {pc : Nat} {L : am_L} {st : List Value} {h : am_H} : am_dx G (.ok (.ineg, 1)) pc L st h = am_1i st fun x r => am_nx (pc + 1) L (.int (-x) :: r) h := rfl
theorem am_dx_invokestatic {G : am_G} {pc : Nat} {L : am_L} {st : List Value} {h : am_H} {q : Nat} : am_dx G (.ok (.invokestatic q, 3)) pc L st h = am_ob (G.2.2.2 q) fun z => if z.1 = none then am_ob (am_call z.1 z.2.1 z.2.2 st h) fun o => am_nx (pc + 3) L (o.1.toList ++ o.2.1) o.2.2 else none := rfl
theorem am_dx_invokevirtual {G : am_G} {pc : Nat} {L : am_L} {st : List Value} {h : am_H} {q : Nat} : am_dx G (.ok (.invokevirtual q, 3)) pc L st h = am_ob (G.2.2.2 q) fun z => if z.1 = none then none else am_ob (am_call z.1 z.2.1 z.2.2 st h) fun o => am_nx (pc + 3) L (o.1.toList ++ o.2.1) o.2.2 := rfl
theorem am_dx_ior {G : am_G} {pc : Nat} {L : am_L} {st : List Value} {h : am_H} : am_dx G (.ok (.ior, 1)) pc L st h = am_2i st fun x y r => am_nx (pc + 1) L (.int (x ||| y) :: r) h := rfl
theorem am_dx_irem {G : am_G} {pc : Nat} {L : am_L} {st : List Value} {h : am_H} : am_dx G (.ok (.irem, 1)) pc L st h = am_2i st fun x y r => if y = 0 then none else am_nx (pc + 1) L (.int (x - x / y * y) :: r) h := rfl
theorem am_dx_ireturn {G : am_G} {pc : Nat} {L : am_L} {h : am_H} {x : Int32} : am_dx G (.ok (.ireturn, 1)) pc L [.int x] h = am_rt (some (.int x)) h := rfl
theorem am_dx_ishl {G : am_G} {pc : Nat} {L : am_L} {st : List Value} {h : am_H} : am_dx G (.ok (.ishl, 1)) pc L st h = am_2i st fun x y r => am_nx (pc + 1) L (.int (x <<< (y &&& 31)) :: r) h := rfl
theorem am_dx_ishr {G : am_G} {pc : Nat} {L : am_L} {st : List Value} {h : am_H} : am_dx G (.ok (.ishr, 1)) pc L st h = am_2i st fun x y r => am_nx (pc + 1) L (.int (x >>> (y &&& 31)) :: r) h := rfl
theorem am_dx_istore_4 {G : am_G} {pc : Nat} {L : am_L} {st : List Value} {h : am_H} : am_dx G (.ok (.istore 4, 2)) pc L st h = am_1i st fun x r => if 4 < L.length then am_nx (pc + 2) (am_st1 L 4 (.int x)) r h else none := rfl
theorem am_dx_istore_5 {G : am_G} {pc : Nat} {L : am_L} {st : List Value} {h : am_H} : am_dx G (.ok (.istore 5, 2)) pc L st h = am_1i st fun x r => if 5 < L.length then am_nx (pc + 2) (am_st1 L 5 (.int x)) r h else none := rfl
theorem am_dx_istore_6 {G : am_G} {pc : Nat} {L : am_L} {st : List Value} {h : am_H} : am_dx G (.ok (.istore 6, 2)) pc L st h = am_1i st fun x r => if 6 < L.length then am_nx (pc + 2) (am_st1 L 6 (.int x)) r h else none := rfl
theorem am_dx_istore_7 {G : am_G} {pc : Nat} {L : am_L} {st : List Value} {h : am_H} : am_dx G (.ok (.istore 7, 2)) pc L st h = am_1i st fun x r => if 7 < L.length then am_nx (pc + 2) (am_st1 L 7 (.int x)) r h else none := rfl
theorem am_dx_istore_8 {G : am_G} {pc : Nat} {L : am_L} {st : List Value} {h : am_H} : am_dx G (.ok (.istore 8, 2)) pc L st h = am_1i st fun x r => if 8 < L.length then am_nx (pc + 2) (am_st1 L 8 (.int x)) r h else none := rfl
theorem am_dx_istore_9 {G : am_G} {pc : Nat} {L : am_L} {st : List Value} {h : am_H} : am_dx G (.ok (.istore 9, 2)) pc L st h = am_1i st fun x r => if 9 < L.length then am_nx (pc + 2) (am_st1 L 9 (.int x)) r h else none := rfl
theorem am_dx_istore_n_1 {G : am_G} {pc : Nat} {L : am_L} {st : List Value} {h : am_H} : am_dx G (.ok (.istore_n 1, 1)) pc L st h = am_1i st fun x r => if 1 < L.length then am_nx (pc + 1) (am_st1 L 1 (.int x)) r h else none := rfl
theorem am_dx_istore_n_2 {G : am_G} {pc : Nat} {L : am_L} {st : List Value} {h : am_H} : am_dx G (.ok (.istore_n 2, 1)) pc L st h = am_1i st fun x r => if 2 < L.length then am_nx (pc + 1) (am_st1 L 2 (.int x)) r h else none := rfl
theorem am_dx_istore_n_3 {G : am_G} {pc : Nat} {L : am_L} {st : List Value} {h : am_H} : am_dx G (.ok (.istore_n 3, 1)) pc L st h = am_1i st fun x r => if 3 < L.length then am_nx (pc + 1) (am_st1 L 3 (.int x)) r h else none := rfl
theorem am_dx_isub {G : am_G} {pc : Nat} {L : am_L} {st : List Value} {h : am_H} : am_dx G (.ok (.isub, 1)) pc L st h = am_2i st fun x y r => am_nx (pc + 1) L (.int (x - y) :: r) h := rfl
theorem am_dx_iushr {G : am_G} {pc : Nat} {L : am_L} {st : List Value} {h : am_H} : am_dx G (.ok (.iushr, 1)) pc L st h = am_2i st fun x y r => am_nx (pc + 1) L (.int (x.toUInt32 >>> (y.toUInt32 &&& Int32.toUInt32 31)).toInt32 :: r) h := rfl
theorem am_dx_l2i {G : am_G} {pc : Nat} {L : am_L} {st : List Value} {h : am_H} : am_dx G (.ok (.l2i, 1)) pc L st h = am_1l st fun x r => am_nx (pc + 1) L (.int x.toInt32 :: r) h := rfl
theorem am_dx_ladd {G : am_G} {pc : Nat} {L : am_L} {st : List Value} {h : am_H} : am_dx G (.ok (.ladd, 1)) pc L st h = am_2l st fun x y r => am_nx (pc + 1) L (.long (x + y) :: r) h := rfl
theorem am_dx_laload {G : am_G} {pc : Nat} {L : am_L} {st : List Value} {h : am_H} : am_dx G (.ok (.laload, 1)) pc L st h = am_ri st fun k i r => if (am_kd k).1 = 21 then am_ix i (am_kd k).2 (am_nx (pc + 1) L (.long (h.2 k i.toNatClampNeg) :: r) h) else none := rfl
theorem am_dx_land {G : am_G} {pc : Nat} {L : am_L} {st : List Value} {h : am_H} : am_dx G (.ok (.land, 1)) pc L st h = am_2l st fun x y r => am_nx (pc + 1) L (.long (x &&& y) :: r) h := rfl
theorem am_dx_lastore {G : am_G} {pc : Nat} {L : am_L} {st : List Value} {h : am_H} : am_dx G (.ok (.lastore, 1)) pc L st h = am_ril st fun k i x r => if (am_kd k).1 = 21 then am_ix i (am_kd k).2 (am_nx (pc + 1) L r (am_ul h k i.toNatClampNeg x)) else none := rfl
theorem am_dx_lcmp {G : am_G} {pc : Nat} {L : am_L} {st : List Value} {h : am_H} : am_dx G (.ok (.lcmp, 1)) pc L st h = am_2l st fun x y r => am_nx (pc + 1) L (.int (lg_cmp x y) :: r) h := rfl
theorem am_dx_lconst_0 {G : am_G} {pc : Nat} {L : am_L} {st : List Value} {h : am_H} : am_dx G (.ok (.lconst 0, 1)) pc L st h = am_nx (pc + 1) L (.long 0 :: st) h := rfl
theorem am_dx_lconst_1 {G : am_G} {pc : Nat} {L : am_L} {st : List Value} {h : am_H} : am_dx G (.ok (.lconst 1, 1)) pc L st h = am_nx (pc + 1) L (.long 1 :: st) h := rfl
theorem am_dx_ldc {G : am_G} {pc : Nat} {L : am_L} {st : List Value} {h : am_H} {q : Nat} : am_dx G (.ok (.ldc q, 2)) pc L st h = am_vi (G.2.1 q) fun x => am_nx (pc + 2) L (.int x :: st) h := rfl
theorem am_dx_ldc2_w {G : am_G} {pc : Nat} {L : am_L} {st : List Value} {h : am_H} {q : Nat} : am_dx G (.ok (.ldc2_w q, 3)) pc L st h = am_vl (G.2.1 q) fun x => am_nx (pc + 3) L (.long x :: st) h := rfl
theorem am_dx_ldc_w {G : am_G} {pc : Nat} {L : am_L} {st : List Value} {h : am_H} {q : Nat} : am_dx G (.ok (.ldc_w q, 3)) pc L st h = am_vi (G.2.1 q) fun x => am_nx (pc + 3) L (.int x :: st) h := rfl
theorem am_dx_ldiv {G : am_G} {pc : Nat} {L : am_L} {st : List Value} {h : am_H} : am_dx G (.ok (.ldiv, 1)) pc L st h = am_2l st fun x y r => if y = 0 then none else am_nx (pc + 1) L (.long (x / y) :: r) h := rfl
theorem am_dx_lload_10 {G : am_G} {pc : Nat} {L : am_L} {st : List Value} {h : am_H} : am_dx G (.ok (.lload 10, 2)) pc L st h = am_vl (am_ld L 10) fun x => am_nx (pc + 2) L (.long x :: st) h := rfl
theorem am_dx_lload_11 {G : am_G} {pc : Nat} {L : am_L} {st : List Value} {h : am_H} : am_dx G (.ok (.lload 11, 2)) pc L st h = am_vl (am_ld L 11) fun x => am_nx (pc + 2) L (.long x :: st) h := rfl
theorem am_dx_lload_13 {G : am_G} {pc : Nat} {L : am_L} {st : List Value} {h : am_H} : am_dx G (.ok (.lload 13, 2)) pc L st h = am_vl (am_ld L 13) fun x => am_nx (pc + 2) L (.long x :: st) h := rfl
theorem am_dx_lload_15 {G : am_G} {pc : Nat} {L : am_L} {st : List Value} {h : am_H} : am_dx G (.ok (.lload 15, 2)) pc L st h = am_vl (am_ld L 15) fun x => am_nx (pc + 2) L (.long x :: st) h := rfl
theorem am_dx_lload_4 {G : am_G} {pc : Nat} {L : am_L} {st : List Value} {h : am_H} : am_dx G (.ok (.lload 4, 2)) pc L st h = am_vl (am_ld L 4) fun x => am_nx (pc + 2) L (.long x :: st) h := rfl
theorem am_dx_lload_5 {G : am_G} {pc : Nat} {L : am_L} {st : List Value} {h : am_H} : am_dx G (.ok (.lload 5, 2)) pc L st h = am_vl (am_ld L 5) fun x => am_nx (pc + 2) L (.long x :: st) h := rfl
theorem am_dx_lload_6 {G : am_G} {pc : Nat} {L : am_L} {st : List Value} {h : am_H} : am_dx G (.ok (.lload 6, 2)) pc L st h = am_vl (am_ld L 6) fun x => am_nx (pc + 2) L (.long x :: st) h := rfl
theorem am_dx_lload_7 {G : am_G} {pc : Nat} {L : am_L} {st : List Value} {h : am_H} : am_dx G (.ok (.lload 7, 2)) pc L st h = am_vl (am_ld L 7) fun x => am_nx (pc + 2) L (.long x :: st) h := rfl
theorem am_dx_lload_8 {G : am_G} {pc : Nat} {L : am_L} {st : List Value} {h : am_H} : am_dx G (.ok (.lload 8, 2)) pc L st h = am_vl (am_ld L 8) fun x => am_nx (pc + 2) L (.long x :: st) h := rfl
theorem am_dx_lload_9 {G : am_G} {pc : Nat} {L : am_L} {st : List Value} {h : am_H} : am_dx G (.ok (.lload 9, 2)) pc L st h = am_vl (am_ld L 9) fun x => am_nx (pc + 2) L (.long x :: st) h := rfl
theorem am_dx_lload_n_0 {G : am_G} {pc : Nat} {L : am_L} {st : List Value} {h : am_H} : am_dx G (.ok (.lload_n 0, 1)) pc L st h = am_vl (am_ld L 0) fun x => am_nx (pc + 1) L (.long x :: st) h := rfl
theorem am_dx_lload_n_2 {G : am_G} {pc : Nat} {L : am_L} {st : List Value} {h : am_H} : am_dx G (.ok (.lload_n 2, 1)) pc L st h = am_vl (am_ld L 2) fun x => am_nx (pc + 1) L (.long x :: st) h := rfl
theorem am_dx_lload_n_3 {G : am_G} {pc : Nat} {L : am_L} {st : List Value} {h : am_H} : am_dx G (.ok (.lload_n 3, 1)) pc L st h = am_vl (am_ld L 3) fun x => am_nx (pc + 1) L (.long x :: st) h := rfl
theorem am_dx_lmul {G : am_G} {pc : Nat} {L : am_L} {st : List Value} {h : am_H} : am_dx G (.ok (.lmul, 1)) pc L st h = am_2l st fun x y r => am_nx (pc + 1) L (.long (x * y) :: r) h := rfl
theorem am_dx_lneg {G : am_G} {pc : Nat} {L : am_L} {st : List Value} {h : am_H} : am_dx G (.ok (.lneg, 1)) pc L st h = am_1l st fun x r => am_nx (pc + 1) L (.long (-x) :: r) h := rfl
theorem am_dx_lrem {G : am_G} {pc : Nat} {L : am_L} {st : List Value} {h : am_H} : am_dx G (.ok (.lrem, 1)) pc L st h = am_2l st fun x y r => if y = 0 then none else am_nx (pc + 1) L (.long (x - x / y * y) :: r) h := rfl
theorem am_dx_lreturn {G : am_G} {pc : Nat} {L : am_L} {h : am_H} {x : Int64} : am_dx G (.ok (.lreturn, 1)) pc L [.long x] h = am_rt (some (.long x)) h := rfl
theorem am_dx_lshl {G : am_G} {pc : Nat} {L : am_L} {st : List Value} {h : am_H} : am_dx G (.ok (.lshl, 1)) pc L st h = am_li st fun x y r => am_nx (pc + 1) L (.long (x <<< (y.toInt64 &&& 63)) :: r) h := rfl
theorem am_dx_lshr {G : am_G} {pc : Nat} {L : am_L} {st : List Value} {h : am_H} : am_dx G (.ok (.lshr, 1)) pc L st h = am_li st fun x y r => am_nx (pc + 1) L (.long (x >>> (y.toInt64 &&& 63)) :: r) h := rfl
theorem am_dx_lstore_10 {G : am_G} {pc : Nat} {L : am_L} {st : List Value} {h : am_H} : am_dx G (.ok (.lstore 10, 2)) pc L st h = am_1l st fun x r => if 11 < L.length then am_nx (pc + 2) (am_st2 L 10 (.long x)) r h else none := rfl
theorem am_dx_lstore_11 {G : am_G} {pc : Nat} {L : am_L} {st : List Value} {h : am_H} : am_dx G (.ok (.lstore 11, 2)) pc L st h = am_1l st fun x r => if 12 < L.length then am_nx (pc + 2) (am_st2 L 11 (.long x)) r h else none := rfl
theorem am_dx_lstore_13 {G : am_G} {pc : Nat} {L : am_L} {st : List Value} {h : am_H} : am_dx G (.ok (.lstore 13, 2)) pc L st h = am_1l st fun x r => if 14 < L.length then am_nx (pc + 2) (am_st2 L 13 (.long x)) r h else none := rfl
theorem am_dx_lstore_15 {G : am_G} {pc : Nat} {L : am_L} {st : List Value} {h : am_H} : am_dx G (.ok (.lstore 15, 2)) pc L st h = am_1l st fun x r => if 16 < L.length then am_nx (pc + 2) (am_st2 L 15 (.long x)) r h else none := rfl
theorem am_dx_lstore_4 {G : am_G} {pc : Nat} {L : am_L} {st : List Value} {h : am_H} : am_dx G (.ok (.lstore 4, 2)) pc L st h = am_1l st fun x r => if 5 < L.length then am_nx (pc + 2) (am_st2 L 4 (.long x)) r h else none := rfl
theorem am_dx_lstore_5 {G : am_G} {pc : Nat} {L : am_L} {st : List Value} {h : am_H} : am_dx G (.ok (.lstore 5, 2)) pc L st h = am_1l st fun x r => if 6 < L.length then am_nx (pc + 2) (am_st2 L 5 (.long x)) r h else none := rfl
theorem am_dx_lstore_6 {G : am_G} {pc : Nat} {L : am_L} {st : List Value} {h : am_H} : am_dx G (.ok (.lstore 6, 2)) pc L st h = am_1l st fun x r => if 7 < L.length then am_nx (pc + 2) (am_st2 L 6 (.long x)) r h else none := rfl
theorem am_dx_lstore_7 {G : am_G} {pc : Nat} {L : am_L} {st : List Value} {h : am_H} : am_dx G (.ok (.lstore 7, 2)) pc L st h = am_1l st fun x r => if 8 < L.length then am_nx (pc + 2) (am_st2 L 7 (.long x)) r h else none := rfl
theorem am_dx_lstore_8 {G : am_G} {pc : Nat} {L : am_L} {st : List Value} {h : am_H} : am_dx G (.ok (.lstore 8, 2)) pc L st h = am_1l st fun x r => if 9 < L.length then am_nx (pc + 2) (am_st2 L 8 (.long x)) r h else none := rfl
theorem am_dx_lstore_9 {G : am_G} {pc : Nat} {L : am_L} {st : List Value} {h : am_H} : am_dx G (.ok (.lstore 9, 2)) pc L st h = am_1l st fun x r => if 10 < L.length then am_nx (pc + 2) (am_st2 L 9 (.long x)) r h else none := rfl
theorem am_dx_lstore_n_2 {G : am_G} {pc : Nat} {L : am_L} {st : List Value} {h : am_H} : am_dx G (.ok (.lstore_n 2, 1)) pc L st h = am_1l st fun x r => if 3 < L.length then am_nx (pc + 1) (am_st2 L 2 (.long x)) r h else none := rfl
theorem am_dx_lstore_n_3 {G : am_G} {pc : Nat} {L : am_L} {st : List Value} {h : am_H} : am_dx G (.ok (.lstore_n 3, 1)) pc L st h = am_1l st fun x r => if 4 < L.length then am_nx (pc + 1) (am_st2 L 3 (.long x)) r h else none := rfl
theorem am_dx_lsub {G : am_G} {pc : Nat} {L : am_L} {st : List Value} {h : am_H} : am_dx G (.ok (.lsub, 1)) pc L st h = am_2l st fun x y r => am_nx (pc + 1) L (.long (x - y) :: r) h := rfl
theorem am_dx_lxor {G : am_G} {pc : Nat} {L : am_L} {st : List Value} {h : am_H} : am_dx G (.ok (.lxor, 1)) pc L st h = am_2l st fun x y r => am_nx (pc + 1) L (.long (x ^^^ y) :: r) h := rfl
theorem am_dx_pop {G : am_G} {pc : Nat} {L : am_L} {st : List Value} {h : am_H} : am_dx G (.ok (.pop, 1)) pc L st h = am_1i st fun _ r => am_nx (pc + 1) L r h := rfl
theorem am_dx_putfield {G : am_G} {pc : Nat} {L : am_L} {r : List Value} {h : am_H} {q k : Nat} {v : Value} : am_dx G (.ok (.putfield q, 3)) pc L (v :: .ref k :: r) h = am_ob (G.1 q) fun z => if (am_kd k).1 = z.1 then am_ob (am_fw z.1 z.2 k v h) fun h2 => am_nx (pc + 3) L r h2 else none := rfl
theorem am_dx_return {G : am_G} {pc : Nat} {L : am_L} {h : am_H} : am_dx G (.ok (.return_, 1)) pc L [] h = am_rt none h := rfl
theorem am_dx_sipush_m9999 {G : am_G} {pc : Nat} {L : am_L} {st : List Value} {h : am_H} : am_dx G (.ok (.sipush (-9999), 3)) pc L st h = am_nx (pc + 3) L (.int (-9999) :: st) h := rfl
theorem am_dx_sipush_10000 {G : am_G} {pc : Nat} {L : am_L} {st : List Value} {h : am_H} : am_dx G (.ok (.sipush 10000, 3)) pc L st h = am_nx (pc + 3) L (.int 10000 :: st) h := rfl
theorem am_dx_sipush_150 {G : am_G} {pc : Nat} {L : am_L} {st : List Value} {h : am_H} : am_dx G (.ok (.sipush 150, 3)) pc L st h = am_nx (pc + 3) L (.int 150 :: st) h := rfl
theorem am_dx_sipush_158 {G : am_G} {pc : Nat} {L : am_L} {st : List Value} {h : am_H} : am_dx G (.ok (.sipush 158, 3)) pc L st h = am_nx (pc + 3) L (.int 158 :: st) h := rfl
theorem am_dx_sipush_255 {G : am_G} {pc : Nat} {L : am_L} {st : List Value} {h : am_H} : am_dx G (.ok (.sipush 255, 3)) pc L st h = am_nx (pc + 3) L (.int 255 :: st) h := rfl
theorem am_dx_sipush_336 {G : am_G} {pc : Nat} {L : am_L} {st : List Value} {h : am_H} : am_dx G (.ok (.sipush 336, 3)) pc L st h = am_nx (pc + 3) L (.int 336 :: st) h := rfl
theorem am_dx_sipush_4095 {G : am_G} {pc : Nat} {L : am_L} {st : List Value} {h : am_H} : am_dx G (.ok (.sipush 4095, 3)) pc L st h = am_nx (pc + 3) L (.int 4095 :: st) h := rfl
theorem am_dx_sipush_999 {G : am_G} {pc : Nat} {L : am_L} {st : List Value} {h : am_H} : am_dx G (.ok (.sipush 999, 3)) pc L st h = am_nx (pc + 3) L (.int 999 :: st) h := rfl
theorem am_dx_sipush_9999 {G : am_G} {pc : Nat} {L : am_L} {st : List Value} {h : am_H} : am_dx G (.ok (.sipush 9999, 3)) pc L st h = am_nx (pc + 3) L (.int 9999 :: st) h := rfl
