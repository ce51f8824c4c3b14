/-! calls in the small machine, for simp; loops; what the cells of each class are -/
theorem am_cS_0 {f : List Value → am_H → am_R} {rest : List Value} {h : am_H} : am_call none 0 f (rest) h = if rest.length ≤ 4 then am_ob (f [] h) (fun q => some (q.1, rest, q.2)) else none := by
  simp [am_call, List.length_cons]
theorem am_cV_0 {f : List Value → am_H → am_R} {rest : List Value} {h : am_H} {b ci : Nat} : am_call (some ci) 0 f (.ref b :: rest) h = if (am_kd b).1 = ci ∧ rest.length ≤ 4 then am_ob (f [.ref b] h) (fun q => some (q.1, rest, q.2)) else none := rfl
theorem am_cS_1 {x1 : Value} {f : List Value → am_H → am_R} {rest : List Value} {h : am_H} : am_call none 1 f (x1 :: rest) h = if rest.length ≤ 4 then am_ob (f [x1] h) (fun q => some (q.1, rest, q.2)) else none := by
  simp [am_call, List.length_cons]
theorem am_cV_1 {x1 : Value} {f : List Value → am_H → am_R} {rest : List Value} {h : am_H} {b ci : Nat} : am_call (some ci) 1 f (x1 :: .ref b :: rest) h = if (am_kd b).1 = ci ∧ rest.length ≤ 4 then am_ob (f [.ref b, x1] h) (fun q => some (q.1, rest, q.2)) else none := rfl
theorem am_cS_2 {x1 x2 : Value} {f : List Value → am_H → am_R} {rest : List Value} {h : am_H} : am_call none 2 f (x1 :: x2 :: rest) h = if rest.length ≤ 4 then am_ob (f [x2, x1] h) (fun q => some (q.1, rest, q.2)) else none := by
  simp [am_call, List.length_cons]
theorem am_cV_2 {x1 x2 : Value} {f : List Value → am_H → am_R} {rest : List Value} {h : am_H} {b ci : Nat} : am_call (some ci) 2 f (x1 :: x2 :: .ref b :: rest) h = if (am_kd b).1 = ci ∧ rest.length ≤ 4 then am_ob (f [.ref b, x2, x1] h) (fun q => some (q.1, rest, q.2)) else none := rfl
theorem am_cS_3 {x1 x2 x3 : Value} {f : List Value → am_H → am_R} {rest : List Value} {h : am_H} : am_call none 3 f (x1 :: x2 :: x3 :: rest) h = if rest.length ≤ 4 then am_ob (f [x3, x2, x1] h) (fun q => some (q.1, rest, q.2)) else none := by
  simp [am_call, List.length_cons]
theorem am_cV_3 {x1 x2 x3 : Value} {f : List Value → am_H → am_R} {rest : List Value} {h : am_H} {b ci : Nat} : am_call (some ci) 3 f (x1 :: x2 :: x3 :: .ref b :: rest) h = if (am_kd b).1 = ci ∧ rest.length ≤ 4 then am_ob (f [.ref b, x3, x2, x1] h) (fun q => some (q.1, rest, q.2)) else none := rfl
theorem am_cS_4 {x1 x2 x3 x4 : Value} {f : List Value → am_H → am_R} {rest : List Value} {h : am_H} : am_call none 4 f (x1 :: x2 :: x3 :: x4 :: rest) h = if rest.length ≤ 4 then am_ob (f [x4, x3, x2, x1] h) (fun q => some (q.1, rest, q.2)) else none := by
  simp [am_call, List.length_cons]
theorem am_cV_4 {x1 x2 x3 x4 : Value} {f : List Value → am_H → am_R} {rest : List Value} {h : am_H} {b ci : Nat} : am_call (some ci) 4 f (x1 :: x2 :: x3 :: x4 :: .ref b :: rest) h = if (am_kd b).1 = ci ∧ rest.length ≤ 4 then am_ob (f [.ref b, x4, x3, x2, x1] h) (fun q => some (q.1, rest, q.2)) else none := rfl
theorem am_cS_5 {x1 x2 x3 x4 x5 : Value} {f : List Value → am_H → am_R} {rest : List Value} {h : am_H} : am_call none 5 f (x1 :: x2 :: x3 :: x4 :: x5 :: rest) h = if rest.length ≤ 4 then am_ob (f [x5, x4, x3, x2, x1] h) (fun q => some (q.1, rest, q.2)) else none := by
  simp [am_call, List.length_cons]
theorem am_cV_5 {x1 x2 x3 x4 x5 : Value} {f : List Value → am_H → am_R} {rest : List Value} {h : am_H} {b ci : Nat} : am_call (some ci) 5 f (x1 :: x2 :: x3 :: x4 :: x5 :: .ref b :: rest) h = if (am_kd b).1 = ci ∧ rest.length ≤ 4 then am_ob (f [.ref b, x5, x4, x3, x2, x1] h) (fun q => some (q.1, rest, q.2)) else none := rfl
theorem am_cS_6 {x1 x2 x3 x4 x5 x6 : Value} {f : List Value → am_H → am_R} {rest : List Value} {h : am_H} : am_call none 6 f (x1 :: x2 :: x3 :: x4 :: x5 :: x6 :: rest) h = if rest.length ≤ 4 then am_ob (f [x6, x5, x4, x3, x2, x1] h) (fun q => some (q.1, rest, q.2)) else none := by
  simp [am_call, List.length_cons]
theorem am_cV_6 {x1 x2 x3 x4 x5 x6 : Value} {f : List Value → am_H → am_R} {rest : List Value} {h : am_H} {b ci : Nat} : am_call (some ci) 6 f (x1 :: x2 :: x3 :: x4 :: x5 :: x6 :: .ref b :: rest) h = if (am_kd b).1 = ci ∧ rest.length ≤ 4 then am_ob (f [.ref b, x6, x5, x4, x3, x2, x1] h) (fun q => some (q.1, rest, q.2)) else none := rfl
theorem am_cS_7 {x1 x2 x3 x4 x5 x6 x7 : Value} {f : List Value → am_H → am_R} {rest : List Value} {h : am_H} : am_call none 7 f (x1 :: x2 :: x3 :: x4 :: x5 :: x6 :: x7 :: rest) h = if rest.length ≤ 4 then am_ob (f [x7, x6, x5, x4, x3, x2, x1] h) (fun q => some (q.1, rest, q.2)) else none := by
  simp [am_call, List.length_cons]
theorem am_cV_7 {x1 x2 x3 x4 x5 x6 x7 : Value} {f : List Value → am_H → am_R} {rest : List Value} {h : am_H} {b ci : Nat} : am_call (some ci) 7 f (x1 :: x2 :: x3 :: x4 :: x5 :: x6 :: x7 :: .ref b :: rest) h = if (am_kd b).1 = ci ∧ rest.length ≤ 4 then am_ob (f [.ref b, x7, x6, x5, x4, x3, x2, x1] h) (fun q => some (q.1, rest, q.2)) else none := rfl
theorem am_cS_8 {x1 x2 x3 x4 x5 x6 x7 x8 : Value} {f : List Value → am_H → am_R} {rest : List Value} {h : am_H} : am_call none 8 f (x1 :: x2 :: x3 :: x4 :: x5 :: x6 :: x7 :: x8 :: rest) h = if rest.length ≤ 4 then am_ob (f [x8, x7, x6, x5, x4, x3, x2, x1] h) (fun q => some (q.1, rest, q.2)) else none := by
  simp [am_call, List.length_cons]
theorem am_l0 : (List.length ([] : List Value) ≤ 4) = True := by simp
theorem am_l1 {a : Value} : (List.length [a] ≤ 4) = True := by simp
theorem am_l2 {a b : Value} : (List.length [a, b] ≤ 4) = True := by simp
theorem am_l3 {a b c : Value} : (List.length [a, b, c] ≤ 4) = True := by simp
theorem am_l4 {a b c d : Value} : (List.length [a, b, c, d] ≤ 4) = True := by simp
theorem am_rk_b {c : Prop} [Decidable c] : am_rk 1 (some (.int (if c then 1 else 0))) = true := by split <;> rfl
theorem am_rk_c {c : Prop} [Decidable c] : am_rk 1 (some (.int (if c then 0 else 1))) = true := by split <;> rfl
theorem am_rk_o {b : Bool} : am_rk 1 (some (.int (if b then 1 else 0))) = true := by cases b <;> rfl
/-- a counted loop, from its head at 0 to its head at n -/
theorem am_loop {G : am_G} {cc : ByteArray} {r : Option Value × am_H} (C : Nat → am_C) (n : Nat) (hs : ∀ i, i < n → am_Big G cc (C (i + 1)) r → am_Big G cc (C i) r) (he : am_Big G cc (C n) r) : am_Big G cc (C 0) r := by
  have : ∀ d, d ≤ n → am_Big G cc (C (n - d)) r := by
    intro d
    induction d with
    | zero => intro _; exact he
    | succ d ih =>
      intro hd
      refine hs _ (by omega) ?_
      rw [show n - (d + 1) + 1 = n - d by omega]
      exact ih (by omega)
  have := this n (Nat.le_refl n)
  rwa [Nat.sub_self] at this
/-- the same, from its head at a -/
theorem am_loopA {G : am_G} {cc : ByteArray} {r : Option Value × am_H} (C : Nat → am_C) (a n : Nat) (ha : a ≤ n) (hs : ∀ i, a ≤ i → i < n → am_Big G cc (C (i + 1)) r → am_Big G cc (C i) r) (he : am_Big G cc (C n) r) : am_Big G cc (C a) r := by
  have := am_loop (G := G) (cc := cc) (r := r) (fun i => C (a + i)) (n - a) (fun i hi k => hs (a + i) (by omega) (by omega) k) (by rw [show a + (n - a) = n by omega]; exact he)
  exact this
/-- any loop whose result is told at its head: by a measure -/
theorem am_loopR {G : am_G} {cc : ByteArray} {σ : Type} (C : σ → am_C) (res : σ → Option Value × am_H) (μ : σ → Nat) (I : σ → Prop) (hs : ∀ s, I s → (∀ t, I t → μ t < μ s → am_Big G cc (C t) (res t)) → am_Big G cc (C s) (res s)) (s : σ) (h : I s) : am_Big G cc (C s) (res s) := by
  have : ∀ n s, I s → μ s < n → am_Big G cc (C s) (res s) := by
    intro n
    induction n with
    | zero => intro s _ h; omega
    | succ n ih => intro s hI hm; exact hs s hI (fun t ht hlt => ih t ht (by omega))
  exact this (μ s + 1) s h (Nat.lt_succ_self _)
/-- places of the nested classes' cells -/
def dt_ok (k : Nat) : Prop := am_kd k = (1, 4) ∧ am_gr k 0 = k + 1 ∧ am_gr k 1 = k + 2 ∧ am_gr k 2 = k + 3 ∧ am_kd (k + 1) = (20, 8) ∧ am_kd (k + 2) = (20, 8) ∧ am_kd (k + 3) = (20, 8)
def se_ok (k : Nat) : Prop := am_kd k = (5, 6) ∧ am_gr k 0 = k + 1 ∧ am_gr k 1 = k + 2 ∧ am_kd (k + 1) = (20, 3) ∧ am_kd (k + 2) = (21, 3)
def ss_ok (k : Nat) : Prop := am_kd k = (6, 8) ∧ am_gr k 0 = k + 1 ∧ am_gr k 1 = k + 4 ∧ am_gr k 2 = k + 5 ∧ am_gr k 3 = k + 6 ∧ am_gr k 4 = k + 7 ∧ am_gr k 5 = k + 8 ∧ am_gr k 6 = k + 9 ∧ am_kd (k + 4) = (20, 56) ∧ am_kd (k + 5) = (20, 56) ∧ am_kd (k + 6) = (20, 56) ∧ am_kd (k + 7) = (20, 56) ∧ am_kd (k + 8) = (20, 56) ∧ am_kd (k + 9) = (20, 56) ∧ am_kd (k + 1) = (5, 6) ∧ am_gr (k + 1) 0 = k + 2 ∧ am_gr (k + 1) 1 = k + 3 ∧ am_kd (k + 2) = (20, 3) ∧ am_kd (k + 3) = (21, 3)
def pg_ok (k : Nat) : Prop := am_kd k = (4, 3) ∧ am_gr k 0 = k + 1 ∧ am_gr k 1 = k + 2 ∧ am_kd (k + 1) = (20, 8) ∧ am_kd (k + 2) = (22, 8)
def ty_ok (k : Nat) : Prop := am_kd k = (7, 4) ∧ am_gr k 0 = k + 1 ∧ am_kd (k + 1) = (20, 8)
theorem dt_1 : dt_ok 1 := ⟨rfl, rfl, rfl, rfl, rfl, rfl, rfl⟩
theorem dt_5 : dt_ok 5 := ⟨rfl, rfl, rfl, rfl, rfl, rfl, rfl⟩
theorem dt_9 : dt_ok 9 := ⟨rfl, rfl, rfl, rfl, rfl, rfl, rfl⟩
theorem dt_13 : dt_ok 13 := ⟨rfl, rfl, rfl, rfl, rfl, rfl, rfl⟩
theorem dt_17 : dt_ok 17 := ⟨rfl, rfl, rfl, rfl, rfl, rfl, rfl⟩
theorem se_32 : se_ok 32 := ⟨rfl, rfl, rfl, rfl, rfl⟩
theorem se_37 : se_ok 37 := ⟨rfl, rfl, rfl, rfl, rfl⟩
theorem se_47 : se_ok 47 := ⟨rfl, rfl, rfl, rfl, rfl⟩
theorem ss_36 : ss_ok 36 := ⟨rfl, rfl, rfl, rfl, rfl, rfl, rfl, rfl, rfl, rfl, rfl, rfl, rfl, rfl, rfl, rfl, rfl, rfl, rfl⟩
theorem ss_46 : ss_ok 46 := ⟨rfl, rfl, rfl, rfl, rfl, rfl, rfl, rfl, rfl, rfl, rfl, rfl, rfl, rfl, rfl, rfl, rfl, rfl, rfl⟩
theorem pg_57 : pg_ok 57 := ⟨rfl, rfl, rfl, rfl, rfl⟩
theorem pg_60 : pg_ok 60 := ⟨rfl, rfl, rfl, rfl, rfl⟩
theorem ty_24 : ty_ok 24 := ⟨rfl, rfl, rfl⟩
theorem ty_26 : ty_ok 26 := ⟨rfl, rfl, rfl⟩
theorem ty_28 : ty_ok 28 := ⟨rfl, rfl, rfl⟩
theorem am_b1 {α : Type} {c : Prop} [Decidable c] {a b : α} : (if (if c then (0 : Int32) else 1) = 0 then a else b) = if c then a else b := by by_cases h : c <;> simp [h]
theorem am_nn {α : Type} {c : Prop} [Decidable c] {a b : α} : (if ¬ c then a else b) = if c then b else a := by by_cases h : c <;> simp [h]
theorem am_dx_ts {G : am_G} {pc : Nat} {L : am_L} {st : List Value} {h : am_H} {d lo hi : Int} {offs : Array Int} {n : Nat} : am_dx G (.ok (.tableswitch d lo hi offs, n)) pc L st h = am_1i st fun x r => if x.toInt < lo ∨ hi < x.toInt then am_jp pc d L r h else am_ob (offs[(x.toInt - lo).toNat]?) fun o => am_jp pc o L r h := by simp [am_dx, am_len, am_ex]
theorem am_8 {g j : Nat} : (8 : Int32) * nI g + nI j = nI (8 * g + j) := by rw [show (8 : Int32) = nI 8 from rfl, pk_mul, nI_add]
theorem am_1p {q : Nat} : (1 : Int32) + nI q = nI (1 + q) := by rw [show (1 : Int32) = nI 1 from rfl, nI_add]
theorem am_10 : ((1 : Int32) = 0) = False := by simp
theorem am_01 : ((0 : Int32) = 1) = False := by simp
theorem am_ne_0_1 {k : Nat} : (k = k + 1) = False := by simp
theorem am_ne_0_2 {k : Nat} : (k = k + 2) = False := by simp
theorem am_ne_0_3 {k : Nat} : (k = k + 3) = False := by simp
theorem am_ne_0_4 {k : Nat} : (k = k + 4) = False := by simp
theorem am_ne_0_5 {k : Nat} : (k = k + 5) = False := by simp
theorem am_ne_0_6 {k : Nat} : (k = k + 6) = False := by simp
theorem am_ne_0_7 {k : Nat} : (k = k + 7) = False := by simp
theorem am_ne_0_8 {k : Nat} : (k = k + 8) = False := by simp
theorem am_ne_0_9 {k : Nat} : (k = k + 9) = False := by simp
theorem am_ne_1_0 {k : Nat} : (k + 1 = k) = False := by simp
theorem am_ne_1_2 {k : Nat} : (k + 1 = k + 2) = False := by simp
theorem am_ne_1_3 {k : Nat} : (k + 1 = k + 3) = False := by simp
theorem am_ne_1_4 {k : Nat} : (k + 1 = k + 4) = False := by simp
theorem am_ne_1_5 {k : Nat} : (k + 1 = k + 5) = False := by simp
theorem am_ne_1_6 {k : Nat} : (k + 1 = k + 6) = False := by simp
theorem am_ne_1_7 {k : Nat} : (k + 1 = k + 7) = False := by simp
theorem am_ne_1_8 {k : Nat} : (k + 1 = k + 8) = False := by simp
theorem am_ne_1_9 {k : Nat} : (k + 1 = k + 9) = False := by simp
theorem am_ne_2_0 {k : Nat} : (k + 2 = k) = False := by simp
theorem am_ne_2_1 {k : Nat} : (k + 2 = k + 1) = False := by simp
theorem am_ne_2_3 {k : Nat} : (k + 2 = k + 3) = False := by simp
theorem am_ne_2_4 {k : Nat} : (k + 2 = k + 4) = False := by simp
theorem am_ne_2_5 {k : Nat} : (k + 2 = k + 5) = False := by simp
theorem am_ne_2_6 {k : Nat} : (k + 2 = k + 6) = False := by simp
theorem am_ne_2_7 {k : Nat} : (k + 2 = k + 7) = False := by simp
theorem am_ne_2_8 {k : Nat} : (k + 2 = k + 8) = False := by simp
theorem am_ne_2_9 {k : Nat} : (k + 2 = k + 9) = False := by simp
theorem am_ne_3_0 {k : Nat} : (k + 3 = k) = False := by simp
theorem am_ne_3_1 {k : Nat} : (k + 3 = k + 1) = False := by simp
theorem am_ne_3_2 {k : Nat} : (k + 3 = k + 2) = False := by simp
theorem am_ne_3_4 {k : Nat} : (k + 3 = k + 4) = False := by simp
theorem am_ne_3_5 {k : Nat} : (k + 3 = k + 5) = False := by simp
theorem am_ne_3_6 {k : Nat} : (k + 3 = k + 6) = False := by simp
theorem am_ne_3_7 {k : Nat} : (k + 3 = k + 7) = False := by simp
theorem am_ne_3_8 {k : Nat} : (k + 3 = k + 8) = False := by simp
theorem am_ne_3_9 {k : Nat} : (k + 3 = k + 9) = False := by simp
theorem am_ne_4_0 {k : Nat} : (k + 4 = k) = False := by simp
theorem am_ne_4_1 {k : Nat} : (k + 4 = k + 1) = False := by simp
theorem am_ne_4_2 {k : Nat} : (k + 4 = k + 2) = False := by simp
theorem am_ne_4_3 {k : Nat} : (k + 4 = k + 3) = False := by simp
theorem am_ne_4_5 {k : Nat} : (k + 4 = k + 5) = False := by simp
theorem am_ne_4_6 {k : Nat} : (k + 4 = k + 6) = False := by simp
theorem am_ne_4_7 {k : Nat} : (k + 4 = k + 7) = False := by simp
theorem am_ne_4_8 {k : Nat} : (k + 4 = k + 8) = False := by simp
theorem am_ne_4_9 {k : Nat} : (k + 4 = k + 9) = False := by simp
theorem am_ne_5_0 {k : Nat} : (k + 5 = k) = False := by simp
theorem am_ne_5_1 {k : Nat} : (k + 5 = k + 1) = False := by simp
theorem am_ne_5_2 {k : Nat} : (k + 5 = k + 2) = False := by simp
theorem am_ne_5_3 {k : Nat} : (k + 5 = k + 3) = False := by simp
theorem am_ne_5_4 {k : Nat} : (k + 5 = k + 4) = False := by simp
theorem am_ne_5_6 {k : Nat} : (k + 5 = k + 6) = False := by simp
theorem am_ne_5_7 {k : Nat} : (k + 5 = k + 7) = False := by simp
theorem am_ne_5_8 {k : Nat} : (k + 5 = k + 8) = False := by simp
theorem am_ne_5_9 {k : Nat} : (k + 5 = k + 9) = False := by simp
theorem am_ne_6_0 {k : Nat} : (k + 6 = k) = False := by simp
theorem am_ne_6_1 {k : Nat} : (k + 6 = k + 1) = False := by simp
theorem am_ne_6_2 {k : Nat} : (k + 6 = k + 2) = False := by simp
theorem am_ne_6_3 {k : Nat} : (k + 6 = k + 3) = False := by simp
theorem am_ne_6_4 {k : Nat} : (k + 6 = k + 4) = False := by simp
theorem am_ne_6_5 {k : Nat} : (k + 6 = k + 5) = False := by simp
theorem am_ne_6_7 {k : Nat} : (k + 6 = k + 7) = False := by simp
theorem am_ne_6_8 {k : Nat} : (k + 6 = k + 8) = False := by simp
theorem am_ne_6_9 {k : Nat} : (k + 6 = k + 9) = False := by simp
theorem am_ne_7_0 {k : Nat} : (k + 7 = k) = False := by simp
theorem am_ne_7_1 {k : Nat} : (k + 7 = k + 1) = False := by simp
theorem am_ne_7_2 {k : Nat} : (k + 7 = k + 2) = False := by simp
theorem am_ne_7_3 {k : Nat} : (k + 7 = k + 3) = False := by simp
theorem am_ne_7_4 {k : Nat} : (k + 7 = k + 4) = False := by simp
theorem am_ne_7_5 {k : Nat} : (k + 7 = k + 5) = False := by simp
theorem am_ne_7_6 {k : Nat} : (k + 7 = k + 6) = False := by simp
theorem am_ne_7_8 {k : Nat} : (k + 7 = k + 8) = False := by simp
theorem am_ne_7_9 {k : Nat} : (k + 7 = k + 9) = False := by simp
theorem am_ne_8_0 {k : Nat} : (k + 8 = k) = False := by simp
theorem am_ne_8_1 {k : Nat} : (k + 8 = k + 1) = False := by simp
theorem am_ne_8_2 {k : Nat} : (k + 8 = k + 2) = False := by simp
theorem am_ne_8_3 {k : Nat} : (k + 8 = k + 3) = False := by simp
theorem am_ne_8_4 {k : Nat} : (k + 8 = k + 4) = False := by simp
theorem am_ne_8_5 {k : Nat} : (k + 8 = k + 5) = False := by simp
theorem am_ne_8_6 {k : Nat} : (k + 8 = k + 6) = False := by simp
theorem am_ne_8_7 {k : Nat} : (k + 8 = k + 7) = False := by simp
theorem am_ne_8_9 {k : Nat} : (k + 8 = k + 9) = False := by simp
theorem am_ne_9_0 {k : Nat} : (k + 9 = k) = False := by simp
theorem am_ne_9_1 {k : Nat} : (k + 9 = k + 1) = False := by simp
theorem am_ne_9_2 {k : Nat} : (k + 9 = k + 2) = False := by simp
theorem am_ne_9_3 {k : Nat} : (k + 9 = k + 3) = False := by simp
theorem am_ne_9_4 {k : Nat} : (k + 9 = k + 4) = False := by simp
theorem am_ne_9_5 {k : Nat} : (k + 9 = k + 5) = False := by simp
theorem am_ne_9_6 {k : Nat} : (k + 9 = k + 6) = False := by simp
theorem am_ne_9_7 {k : Nat} : (k + 9 = k + 7) = False := by simp
theorem am_ne_9_8 {k : Nat} : (k + 9 = k + 8) = False := by simp
