/-! THE SMALL MACHINE: the class's bytecode run over a heap of numbered cells (ints and longs alone change) -/
abbrev am_H : Type := (Nat → Nat → Int32) × (Nat → Nat → Int64)
abbrev am_L : Type := List (Option Value)
abbrev am_R : Type := Option (Option Value × am_H)
abbrev am_C : Type := Nat × am_L × List Value × am_H
abbrev am_S : Type := Option ((Option Value × am_H) ⊕ am_C)
abbrev am_M : Type := Option Nat × Nat × (List Value → am_H → am_R)
/-- a method's links: fields, constants, statics, methods, by the numbers of the pool -/
abbrev am_G : Type := (Nat → Option (Nat × Nat)) × (Nat → Option Value) × (Nat → Option Nat) × (Nat → Option am_M)
def am_ld (L : am_L) (i : Nat) : Option Value := (L[i]?).join
def am_kill (L : am_L) : Nat → am_L
  | 0 => L
  | j + 1 => match am_ld L j with
    | some (.long _) => L.set j none
    | some (.double _) => L.set j none
    | _ => L
def am_st1 (L : am_L) (i : Nat) (v : Value) : am_L := (am_kill L i).set i (some v)
def am_st2 (L : am_L) (i : Nat) (v : Value) : am_L := ((am_kill L i).set i (some v)).set (i + 1) none
def am_nx (pc : Nat) (L : am_L) (st : List Value) (h : am_H) : am_S := some (.inr (pc, L, st, h))
def am_rt (v : Option Value) (h : am_H) : am_S := some (.inl (v, h))
def am_1i (st : List Value) (k : Int32 → List Value → am_S) : am_S := match st with
  | .int x :: r => k x r
  | _ => none
def am_2i (st : List Value) (k : Int32 → Int32 → List Value → am_S) : am_S := match st with
  | .int y :: .int x :: r => k x y r
  | _ => none
def am_1l (st : List Value) (k : Int64 → List Value → am_S) : am_S := match st with
  | .long x :: r => k x r
  | _ => none
def am_2l (st : List Value) (k : Int64 → Int64 → List Value → am_S) : am_S := match st with
  | .long y :: .long x :: r => k x y r
  | _ => none
def am_li (st : List Value) (k : Int64 → Int32 → List Value → am_S) : am_S := match st with
  | .int y :: .long x :: r => k x y r
  | _ => none
def am_1r (st : List Value) (k : Nat → List Value → am_S) : am_S := match st with
  | .ref a :: r => k a r
  | _ => none
def am_ri (st : List Value) (k : Nat → Int32 → List Value → am_S) : am_S := match st with
  | .int i :: .ref a :: r => k a i r
  | _ => none
def am_rii (st : List Value) (k : Nat → Int32 → Int32 → List Value → am_S) : am_S := match st with
  | .int x :: .int i :: .ref a :: r => k a i x r
  | _ => none
def am_ril (st : List Value) (k : Nat → Int32 → Int64 → List Value → am_S) : am_S := match st with
  | .long x :: .int i :: .ref a :: r => k a i x r
  | _ => none
def am_vi (o : Option Value) (k : Int32 → am_S) : am_S := match o with
  | some (.int x) => k x
  | _ => none
def am_vl (o : Option Value) (k : Int64 → am_S) : am_S := match o with
  | some (.long x) => k x
  | _ => none
def am_vr (o : Option Value) (k : Nat → am_S) : am_S := match o with
  | some (.ref x) => k x
  | _ => none
def am_jp (pc : Nat) (off : Int) (L : am_L) (st : List Value) (h : am_H) : am_S := if 0 ≤ (pc : Int) + off then am_nx ((pc : Int) + off).toNat L st h else none
def am_ui (h : am_H) (k j : Nat) (x : Int32) : am_H := (fun a b => if a = k ∧ b = j then x else h.1 a b, h.2)
def am_ul (h : am_H) (k j : Nat) (x : Int64) : am_H := (h.1, fun a b => if a = k ∧ b = j then x else h.2 a b)
def am_uf (h : am_H) (k : Nat) (f : Nat → Int32) : am_H := (fun a b => if a = k then f b else h.1 a b, h.2)
/-- a field read -/
def am_fr (c j k : Nat) (h : am_H) : Value := match am_ft c j with
  | 0 => .int (h.1 k j)
  | 1 => .long (h.2 k j)
  | 2 => .int (h.1 k j)
  | _ => .ref (am_gr k j)
/-- a field written -/
def am_fw (c j k : Nat) (v : Value) (h : am_H) : Option am_H := match am_ft c j, v with
  | 0, .int x => some (am_ui h k j x)
  | 1, .long x => some (am_ul h k j x)
  | 2, .int x => if x = 0 ∨ x = 1 then some (am_ui h k j x) else none
  | _, _ => none
def am_ob {α β : Type} (o : Option α) (k : α → Option β) : Option β := match o with
  | some a => k a
  | none => none
/-- the tables that are only read -/
def am_rc (k j : Nat) : Int32 := (([[0, 0, 0, 1], [50, 1000000, 10000000, 255]] : List (List Int32)).getD (k - 99) []).getD j 0
def am_ix {α : Type} (i : Int32) (n : Nat) (a : Option α) : Option α := if i < 0 ∨ n ≤ i.toNatClampNeg then none else a
def am_call (rc : Option Nat) (n : Nat) (f : List Value → am_H → am_R) (st : List Value) (h : am_H) : Option (Option Value × List Value × am_H) := match rc with
  | some ci => match st.drop n with
    | .ref b :: rest => if (am_kd b).1 = ci ∧ rest.length ≤ 4 then am_ob (f (.ref b :: (st.take n).reverse) h) (fun q => some (q.1, rest, q.2)) else none
    | _ => none
  | none => if n ≤ st.length ∧ (st.drop n).length ≤ 4 then am_ob (f (st.take n).reverse h) (fun q => some (q.1, st.drop n, q.2)) else none
def am_cd (c : Jvm.ClassFile.Cond) (x y : Int32) : Bool := match c with
  | .eq => decide (x = y)
  | .ne => !decide (x = y)
  | .lt => decide (x < y)
  | .ge => decide (y ≤ x)
  | .gt => decide (y < x)
  | .le => decide (x ≤ y)
def am_len (i : Instr) : Nat := match i with
  | .bipush _ => 2 | .sipush _ => 3 | .iload _ => 2 | .lload _ => 2 | .aload _ => 2 | .istore _ => 2 | .lstore _ => 2 | .astore _ => 2 | .iinc _ _ => 3
  | .ifCond _ _ => 3 | .if_icmp _ _ => 3 | .goto _ => 3 | .getfield _ => 3 | .putfield _ => 3 | .getstatic _ => 3 | .invokevirtual _ => 3 | .invokestatic _ => 3
  | .ldc _ => 2 | .ldc_w _ => 3 | .ldc2_w _ => 3 | .lookupswitch _ _ => 0 | .tableswitch _ _ _ _ => 0 | _ => 1
def am_ex (G : am_G) (i : Instr) (pc : Nat) (L : am_L) (st : List Value) (h : am_H) : am_S := match i with
  | .iconst v => am_nx (pc + 1) L (.int (Int32.ofInt v) :: st) h
  | .bipush v => am_nx (pc + 2) L (.int (Int8.ofInt v).toInt32 :: st) h
  | .sipush v => am_nx (pc + 3) L (.int (Int16.ofInt v).toInt32 :: st) h
  | .lconst v => am_nx (pc + 1) L (.long (Int64.ofNat (v : Nat)) :: st) h
  | .iload j => am_vi (am_ld L j) fun x => am_nx (pc + 2) L (.int x :: st) h
  | .iload_n j => am_vi (am_ld L j) fun x => am_nx (pc + 1) L (.int x :: st) h
  | .lload j => am_vl (am_ld L j) fun x => am_nx (pc + 2) L (.long x :: st) h
  | .lload_n j => am_vl (am_ld L j) fun x => am_nx (pc + 1) L (.long x :: st) h
  | .aload j => am_vr (am_ld L j) fun x => am_nx (pc + 2) L (.ref x :: st) h
  | .aload_n j => am_vr (am_ld L j) fun x => am_nx (pc + 1) L (.ref x :: st) h
  | .istore j => am_1i st fun x r => if j < L.length then am_nx (pc + 2) (am_st1 L j (.int x)) r h else none
  | .istore_n j => am_1i st fun x r => if (j : Nat) < L.length then am_nx (pc + 1) (am_st1 L j (.int x)) r h else none
  | .lstore j => am_1l st fun x r => if j + 1 < L.length then am_nx (pc + 2) (am_st2 L j (.long x)) r h else none
  | .lstore_n j => am_1l st fun x r => if (j : Nat) + 1 < L.length then am_nx (pc + 1) (am_st2 L j (.long x)) r h else none
  | .astore j => am_1r st fun x r => if j < L.length then am_nx (pc + 2) (am_st1 L j (.ref x)) r h else none
  | .astore_n j => am_1r st fun x r => if (j : Nat) < L.length then am_nx (pc + 1) (am_st1 L j (.ref x)) r h else none
  | .iinc j v => am_vi (am_ld L j) fun x => if j < L.length then am_nx (pc + 3) (am_st1 L j (.int (x + Int32.ofInt v))) st h else none
  | .iadd => am_2i st fun x y r => am_nx (pc + 1) L (.int (x + y) :: r) h
  | .isub => am_2i st fun x y r => am_nx (pc + 1) L (.int (x - y) :: r) h
  | .imul => am_2i st fun x y r => am_nx (pc + 1) L (.int (x * y) :: r) h
  | .iand => am_2i st fun x y r => am_nx (pc + 1) L (.int (x &&& y) :: r) h
  | .ior => am_2i st fun x y r => am_nx (pc + 1) L (.int (x ||| y) :: r) h
  | .idiv => am_2i st fun x y r => if y = 0 then none else am_nx (pc + 1) L (.int (x / y) :: r) h
  | .irem => am_2i st fun x y r => if y = 0 then none else am_nx (pc + 1) L (.int (x - x / y * y) :: r) h
  | .ineg => am_1i st fun x r => am_nx (pc + 1) L (.int (-x) :: r) h
  | .ishl => am_2i st fun x y r => am_nx (pc + 1) L (.int (x <<< (y &&& 31)) :: r) h
  | .ishr => am_2i st fun x y r => am_nx (pc + 1) L (.int (x >>> (y &&& 31)) :: r) h
  | .iushr => am_2i st fun x y r => am_nx (pc + 1) L (.int (x.toUInt32 >>> (y.toUInt32 &&& Int32.toUInt32 31)).toInt32 :: r) h
  | .ladd => am_2l st fun x y r => am_nx (pc + 1) L (.long (x + y) :: r) h
  | .lsub => am_2l st fun x y r => am_nx (pc + 1) L (.long (x - y) :: r) h
  | .lmul => am_2l st fun x y r => am_nx (pc + 1) L (.long (x * y) :: r) h
  | .land => am_2l st fun x y r => am_nx (pc + 1) L (.long (x &&& y) :: r) h
  | .lxor => am_2l st fun x y r => am_nx (pc + 1) L (.long (x ^^^ y) :: r) h
  | .ldiv => am_2l st fun x y r => if y = 0 then none else am_nx (pc + 1) L (.long (x / y) :: r) h
  | .lrem => am_2l st fun x y r => if y = 0 then none else am_nx (pc + 1) L (.long (x - x / y * y) :: r) h
  | .lneg => am_1l st fun x r => am_nx (pc + 1) L (.long (-x) :: r) h
  | .lshl => am_li st fun x y r => am_nx (pc + 1) L (.long (x <<< (y.toInt64 &&& 63)) :: r) h
  | .lshr => am_li st fun x y r => am_nx (pc + 1) L (.long (x >>> (y.toInt64 &&& 63)) :: r) h
  | .i2l => am_1i st fun x r => am_nx (pc + 1) L (.long x.toInt64 :: r) h
  | .l2i => am_1l st fun x r => am_nx (pc + 1) L (.int x.toInt32 :: r) h
  | .lcmp => am_2l st fun x y r => am_nx (pc + 1) L (.int (lg_cmp x y) :: r) h
  | .dup => match st with
    | .int x :: r => am_nx (pc + 1) L (.int x :: .int x :: r) h
    | .ref x :: r => am_nx (pc + 1) L (.ref x :: .ref x :: r) h
    | _ => none
  | .dup2 => am_ri st fun a i r => am_nx (pc + 1) L (.int i :: .ref a :: .int i :: .ref a :: r) h
  | .pop => am_1i st fun _ r => am_nx (pc + 1) L r h
  | .ifCond c off => if 0 ≤ (pc : Int) + off then am_1i st fun x r => if am_cd c x 0 = true then am_jp pc off L r h else am_nx (pc + 3) L r h else none
  | .if_icmp c off => if 0 ≤ (pc : Int) + off then am_2i st fun x y r => if am_cd c x y = true then am_jp pc off L r h else am_nx (pc + 3) L r h else none
  | .goto off => am_jp pc off L st h
  | .tableswitch d lo hi offs => am_1i st fun x r => if x.toInt < lo ∨ hi < x.toInt then am_jp pc d L r h else am_ob (offs[(x.toInt - lo).toNat]?) fun o => am_jp pc o L r h
  | .lookupswitch d ps => am_1i st fun x r => if (ps.toList.zip (ps.toList.drop 1)).all (fun q => decide (q.1.1 < q.2.1)) = true then am_jp pc (Op.lookupswitch.offset ps.toList d x.toInt) L r h else none
  | .getfield q => am_1r st fun k r => am_ob (G.1 q) fun z => if (am_kd k).1 = z.1 then am_nx (pc + 3) L (am_fr z.1 z.2 k h :: r) h else none
  | .putfield q => match st with
    | v :: .ref k :: r => am_ob (G.1 q) fun z => if (am_kd k).1 = z.1 then am_ob (am_fw z.1 z.2 k v h) fun h2 => am_nx (pc + 3) L r h2 else none
    | _ => none
  | .getstatic q => am_ob (G.2.2.1 q) fun k => am_nx (pc + 3) L (.ref k :: st) h
  | .ldc q => am_vi (G.2.1 q) fun x => am_nx (pc + 2) L (.int x :: st) h
  | .ldc_w q => am_vi (G.2.1 q) fun x => am_nx (pc + 3) L (.int x :: st) h
  | .ldc2_w q => am_vl (G.2.1 q) fun x => am_nx (pc + 3) L (.long x :: st) h
  | .iaload => am_ri st fun k i r => if (am_kd k).1 = 20 then am_ix i (am_kd k).2 (am_nx (pc + 1) L (.int (h.1 k i.toNatClampNeg) :: r) h) else if (am_kd k).1 = 30 then am_ix i (am_kd k).2 (am_nx (pc + 1) L (.int (am_rc k i.toNatClampNeg) :: r) h) else none
  | .laload => am_ri st fun k i r => if (am_kd k).1 = 21 then am_ix i (am_kd k).2 (am_nx (pc + 1) L (.long (h.2 k i.toNatClampNeg) :: r) h) else none
  | .baload => am_ri st fun k i r => if (am_kd k).1 = 22 then am_ix i (am_kd k).2 (am_nx (pc + 1) L (.int (h.1 k i.toNatClampNeg) :: r) h) else none
  | .aaload => am_ri st fun k i r => if (am_kd k).1 = 23 ∨ (am_kd k).1 = 24 ∨ (am_kd k).1 = 25 then am_ix i (am_kd k).2 (am_nx (pc + 1) L (.ref (am_gr k i.toNatClampNeg) :: r) h) else none
  | .iastore => am_rii st fun k i x r => if (am_kd k).1 = 20 then am_ix i (am_kd k).2 (am_nx (pc + 1) L r (am_ui h k i.toNatClampNeg x)) else none
  | .bastore => am_rii st fun k i x r => if (am_kd k).1 = 22 then am_ix i (am_kd k).2 (if x = 0 ∨ x = 1 then am_nx (pc + 1) L r (am_ui h k i.toNatClampNeg x) else none) else none
  | .lastore => am_ril st fun k i x r => if (am_kd k).1 = 21 then am_ix i (am_kd k).2 (am_nx (pc + 1) L r (am_ul h k i.toNatClampNeg x)) else none
  | .arraylength => am_1r st fun k r => if (am_kd k).1 = 20 then am_nx (pc + 1) L (.int (Int32.ofNat (am_kd k).2) :: r) h else none
  | .invokevirtual q => am_ob (G.2.2.2 q) fun z => if z.1 = none then none else am_ob (am_call z.1 z.2.1 z.2.2 st h) fun o => am_nx (pc + 3) L (o.1.toList ++ o.2.1) o.2.2
  | .invokestatic q => am_ob (G.2.2.2 q) fun z => if z.1 = none then am_ob (am_call z.1 z.2.1 z.2.2 st h) fun o => am_nx (pc + 3) L (o.1.toList ++ o.2.1) o.2.2 else none
  | .ireturn => match st with
    | [.int x] => am_rt (some (.int x)) h
    | _ => none
  | .lreturn => match st with
    | [.long x] => am_rt (some (.long x)) h
    | _ => none
  | .return_ => match st with
    | [] => am_rt none h
    | _ => none
  | _ => none
/-- one instruction -/
def am_step (G : am_G) (cc : ByteArray) (c : am_C) : am_S := match decode cc c.1 with
  | .ok q => if am_len q.1 = 0 ∨ am_len q.1 = q.2 then am_ex G q.1 c.1 c.2.1 c.2.2.1 c.2.2.2 else none
  | .error _ => none
def am_run (G : am_G) (cc : ByteArray) : Nat → am_C → am_R
  | 0, _ => none
  | n + 1, c => match am_step G cc c with
    | none => none
    | some (.inl r) => some r
    | some (.inr c2) => am_run G cc n c2
/-- up to the next stop -/
def am_go (G : am_G) (cc : ByteArray) (sp : List Nat) : Nat → am_C → am_S
  | 0, _ => none
  | n + 1, c => match am_step G cc c with
    | none => none
    | some (.inl r) => some (.inl r)
    | some (.inr c2) => if sp.contains c2.1 then some (.inr c2) else am_go G cc sp n c2
/-- it comes to this result -/
def am_Big (G : am_G) (cc : ByteArray) (c : am_C) (r : Option Value × am_H) : Prop := ∃ n, am_run G cc n c = some r
theorem am_run_more {G : am_G} {cc : ByteArray} : ∀ (n : Nat) (c : am_C) {r : Option Value × am_H} (k : Nat), am_run G cc n c = some r → am_run G cc (n + k) c = some r
  | 0, _, _, _, h => by simp [am_run] at h
  | n + 1, c, r, k, h => by
    rw [show n + 1 + k = (n + k) + 1 by omega]
    simp only [am_run] at h ⊢
    split at h
    · cases h
    · exact h
    · exact am_run_more n _ k h
theorem am_Big_one {G : am_G} {cc : ByteArray} {c : am_C} {r q : Option Value × am_H} (h1 : am_Big G cc c r) (h2 : am_Big G cc c q) : r = q := by
  obtain ⟨n, hn⟩ := h1
  obtain ⟨k, hk⟩ := h2
  have a := am_run_more n c k hn
  have b := am_run_more k c n hk
  rw [show k + n = n + k by omega] at b
  exact Option.some.inj (a.symm.trans b)
theorem am_Big_step {G : am_G} {cc : ByteArray} {c c2 : am_C} {r : Option Value × am_H} (h : am_step G cc c = some (.inr c2)) (k : am_Big G cc c2 r) : am_Big G cc c r := by
  obtain ⟨n, hn⟩ := k
  exact ⟨n + 1, by simp only [am_run, h]; exact hn⟩
theorem am_Big_ret {G : am_G} {cc : ByteArray} {c : am_C} {r : Option Value × am_H} (h : am_step G cc c = some (.inl r)) : am_Big G cc c r := ⟨1, by simp only [am_run, h]⟩
theorem am_Big_go {G : am_G} {cc : ByteArray} {sp : List Nat} : ∀ (n : Nat) {c c2 : am_C} {r : Option Value × am_H}, am_go G cc sp n c = some (.inr c2) → am_Big G cc c2 r → am_Big G cc c r
  | 0, _, _, _, h, _ => by simp [am_go] at h
  | n + 1, c, c2, r, h, k => by
    simp only [am_go] at h
    split at h
    · cases h
    · cases h
    · rename_i c3 hs
      split at h
      · cases h
        exact am_Big_step hs k
      · exact am_Big_step hs (am_Big_go n h k)
theorem am_Big_end {G : am_G} {cc : ByteArray} {sp : List Nat} : ∀ (n : Nat) {c : am_C} {r : Option Value × am_H}, am_go G cc sp n c = some (.inl r) → am_Big G cc c r
  | 0, _, _, h => by simp [am_go] at h
  | n + 1, c, r, h => by
    simp only [am_go] at h
    split at h
    · cases h
    · rename_i hs
      cases h
      exact am_Big_ret hs
    · rename_i c3 hs
      split at h
      · cases h
      · exact am_Big_step hs (am_Big_end n h)
/-- a method's locals at its entry -/
def am_en (n : Nat) (av : List Value) : am_L := (av.flatMap fun v => if v.category = 2 then [some v, none] else [some v]) ++ List.replicate (n - (av.flatMap fun v => if v.category = 2 then [some v, none] else [some v]).length) none
/-- what a method means: arguments and heap to answer and heap -/
noncomputable def am_mean (G : am_G) (cc : ByteArray) (n : Nat) (av : List Value) (h : am_H) : am_R :=
  @dite _ (∃ r, am_Big G cc (0, am_en n av, [], h) r) (Classical.propDecidable _) (fun hx => some hx.choose) (fun _ => none)
theorem am_mean_of {G : am_G} {cc : ByteArray} {n : Nat} {av : List Value} {h : am_H} {r : Option Value × am_H} (k : am_Big G cc (0, am_en n av, [], h) r) : am_mean G cc n av h = some r := by
  unfold am_mean
  rw [dif_pos ⟨r, k⟩]
  exact congrArg some (am_Big_one (Exists.choose_spec (p := fun r => am_Big G cc (0, am_en n av, [], h) r) ⟨r, k⟩) k)
theorem am_mean_to {G : am_G} {cc : ByteArray} {n : Nat} {av : List Value} {h : am_H} {r : Option Value × am_H} (k : am_mean G cc n av h = some r) : am_Big G cc (0, am_en n av, [], h) r := by
  unfold am_mean at k
  split at k
  · rename_i hx
    rw [← Option.some.inj k]
    exact hx.choose_spec
  · cases k
