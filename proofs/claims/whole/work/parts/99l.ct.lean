/-! constructors: the rows that they are walked by -/
def ct_T (cz : Nat → ClassId) : List (ClassId × FieldType) := [(cz 0, .int), (cz 1, .long), (cz 2, .boolean), (cz 3, .object "StarPlates$Dots"), (cz 4, .object "StarPlates$Tray"), (cz 5, .object "StarPlates$Pairing")]
def ct_K (D : va_G) (cz : Nat → ClassId) (U : State) : Prop := va_K D vwCl (ct_T cz) U ∧ (va_Nw (.methodLinkNest "StarPlates" 13 yX1_init "StarPlates") U ∧ va_Nw (.methodLinkNest "StarPlates" 31 yX7_init "StarPlates") U ∧ va_Nw (.methodLinkNest "StarPlates" 43 yX5_init "StarPlates") U ∧ va_Nw (.methodLinkNest "StarPlates" 50 yX0_init "StarPlates") U ∧ va_Nw (.methodLinkNest "StarPlates$Ballot" 11 yX6_init "StarPlates") U ∧ va_Nw (.methodLinkNest "StarPlates$Shapes" 11 yX5_init "StarPlates") U ∧ va_Nw (.methodLinkNest "StarPlates" 57 yX4_init "StarPlates") U ∧ va_Nw (.methodLinkNest "StarPlates" 64 yX2_init "StarPlates") U ∧ va_Nw (.methodLinkNest "StarPlates" 71 yX3_init "StarPlates") U) ∧ va_AO "StarPlates$Dots" U ∧ va_AO "StarPlates$Tray" U ∧ va_AO "StarPlates$Pairing" U
theorem ct_K_warm {D : va_G} {cz : Nat → ClassId} {s U : State} (hW : s.WarmedH U.vm) (h : ct_K D cz s) : ct_K D cz U := by
  obtain ⟨h0, ⟨h1, h2, h3, h4, h5, h6, h7, h8, h9⟩, a1, a2, a3⟩ := h
  exact ⟨va_K.moved hW.alike h0, ⟨va_Nw.warmM hW h1, va_Nw.warmM hW h2, va_Nw.warmM hW h3, va_Nw.warmM hW h4, va_Nw.warmM hW h5, va_Nw.warmM hW h6, va_Nw.warmM hW h7, va_Nw.warmM hW h8, va_Nw.warmM hW h9⟩, va_AO.moved hW.alike a1, va_AO.moved hW.alike a2, va_AO.moved hW.alike a3⟩
theorem ct_K_same {D : va_G} {cz : Nat → ClassId} {s U : State} (hW : s.vm = U.vm) (h : ct_K D cz s) : ct_K D cz U := by
  obtain ⟨h0, ⟨h1, h2, h3, h4, h5, h6, h7, h8, h9⟩, a1, a2, a3⟩ := h
  have ha : s.vm.Alike U.vm := by rw [hW]; exact Vm.Alike.refl U.vm
  exact ⟨va_K.moved ha h0, ⟨va_Nw.same rfl hW h1, va_Nw.same rfl hW h2, va_Nw.same rfl hW h3, va_Nw.same rfl hW h4, va_Nw.same rfl hW h5, va_Nw.same rfl hW h6, va_Nw.same rfl hW h7, va_Nw.same rfl hW h8, va_Nw.same rfl hW h9⟩, va_AO.moved ha a1, va_AO.moved ha a2, va_AO.moved ha a3⟩
theorem va_nd_of {l : List Nat} (h : l.Nodup) : va_nd l = true := by
  induction l with
  | nil => rfl
  | cons a l ih =>
    rw [List.nodup_cons] at h
    simp only [va_nd, Bool.and_eq_true, decide_eq_true_eq]
    exact ⟨h.1, ih h.2⟩
section CTR
variable {p : Program} {l : Launch} {e : Env} {R : Room} {s : State} {m : MethodId} {args : Array Value} {below : List Frame} {meth : Method} {c : Code} {H : Heap} {locs : List Loc} {cells slots : Nat} {Q : State → Prop} {cc : ByteArray} {D : va_G} {cz : Nat → ClassId} {A : Nat → Prop} {ws : va_W} {pc : Nat} {ls : Array Slot} {rest : List Value}
theorem ct_ai (hx : p.tables.exec = Jvm.exec) (hb : c.code = cc) (hts : ∀ w ∈ am_big, w.before args s = true) (hK : ct_K D cz s) (hP : va_P D vwCl ws H) (hD : va_D A ws) (hS : va_S A s.heap H locs) (hA : ∀ q, s.heap.size ≤ q → A q) {n : Int32} {N' : Nat} (hn : ¬ n < 0) (hN : n.toNatClampNeg = N') (hbytes : N' * componentBytes .int ≤ 536870912) (hcells : cells + 1 ≤ R.cells) (hslots : slots + N' ≤ R.slots) (hdg : decode cc pc = .ok (.newarray .int, 2))
    (kk : ∀ (q : Nat) (H1 : Heap), va_P D vwCl (ws ++ [(q, .inl (cz 0, N', .inl fun _ => 0))]) H1 → va_D A (ws ++ [(q, .inl (cz 0, N', .inl fun _ => 0))]) → va_S A s.heap H1 locs → W p l e R s m args below meth c H1 locs (cells + 1) (slots + N') Q (F0 m (pc + 2) ls (.ref q :: rest))) : W p l e R s m args below meth c H locs cells slots Q (F0 m pc ls (.int n :: rest)) := by
  refine va_newa (atype := .int) (ty := .int) (a0 := (N', .inl fun _ => 0)) hx hb (hts _ wa_int) rfl hK.1 hP hD hS hA (fun cA => rfl) hn hN hbytes hcells hslots hdg (fun q cA H1 hK1 hP1 hD1 hS1 => ?_)
  have e1 : s.vm.findClass ("[" ++ FieldType.int.toString) = some cA := (hK1.2 6 _ rfl).2
  have e2 : s.vm.findClass ("[" ++ FieldType.int.toString) = some (cz 0) := (hK.1.2 0 _ rfl).2
  have e3 : cA = cz 0 := Option.some.inj (e1.symm.trans e2)
  rw [e3] at hP1 hD1
  exact kk q H1 hP1 hD1 hS1
theorem ct_al (hx : p.tables.exec = Jvm.exec) (hb : c.code = cc) (hts : ∀ w ∈ am_big, w.before args s = true) (hK : ct_K D cz s) (hP : va_P D vwCl ws H) (hD : va_D A ws) (hS : va_S A s.heap H locs) (hA : ∀ q, s.heap.size ≤ q → A q) {n : Int32} {N' : Nat} (hn : ¬ n < 0) (hN : n.toNatClampNeg = N') (hbytes : N' * componentBytes .long ≤ 536870912) (hcells : cells + 1 ≤ R.cells) (hslots : slots + N' ≤ R.slots) (hdg : decode cc pc = .ok (.newarray .long, 2))
    (kk : ∀ (q : Nat) (H1 : Heap), va_P D vwCl (ws ++ [(q, .inl (cz 1, N', .inr (.inl fun _ => 0)))]) H1 → va_D A (ws ++ [(q, .inl (cz 1, N', .inr (.inl fun _ => 0)))]) → va_S A s.heap H1 locs → W p l e R s m args below meth c H1 locs (cells + 1) (slots + N') Q (F0 m (pc + 2) ls (.ref q :: rest))) : W p l e R s m args below meth c H locs cells slots Q (F0 m pc ls (.int n :: rest)) := by
  refine va_newa (atype := .long) (ty := .long) (a0 := (N', .inr (.inl fun _ => 0))) hx hb (hts _ wa_long) rfl hK.1 hP hD hS hA (fun cA => rfl) hn hN hbytes hcells hslots hdg (fun q cA H1 hK1 hP1 hD1 hS1 => ?_)
  have e1 : s.vm.findClass ("[" ++ FieldType.long.toString) = some cA := (hK1.2 6 _ rfl).2
  have e2 : s.vm.findClass ("[" ++ FieldType.long.toString) = some (cz 1) := (hK.1.2 1 _ rfl).2
  have e3 : cA = cz 1 := Option.some.inj (e1.symm.trans e2)
  rw [e3] at hP1 hD1
  exact kk q H1 hP1 hD1 hS1
theorem ct_az (hx : p.tables.exec = Jvm.exec) (hb : c.code = cc) (hts : ∀ w ∈ am_big, w.before args s = true) (hK : ct_K D cz s) (hP : va_P D vwCl ws H) (hD : va_D A ws) (hS : va_S A s.heap H locs) (hA : ∀ q, s.heap.size ≤ q → A q) {n : Int32} {N' : Nat} (hn : ¬ n < 0) (hN : n.toNatClampNeg = N') (hbytes : N' * componentBytes .boolean ≤ 536870912) (hcells : cells + 1 ≤ R.cells) (hslots : slots + N' ≤ R.slots) (hdg : decode cc pc = .ok (.newarray .boolean, 2))
    (kk : ∀ (q : Nat) (H1 : Heap), va_P D vwCl (ws ++ [(q, .inl (cz 2, N', .inl fun _ => 0))]) H1 → va_D A (ws ++ [(q, .inl (cz 2, N', .inl fun _ => 0))]) → va_S A s.heap H1 locs → W p l e R s m args below meth c H1 locs (cells + 1) (slots + N') Q (F0 m (pc + 2) ls (.ref q :: rest))) : W p l e R s m args below meth c H locs cells slots Q (F0 m pc ls (.int n :: rest)) := by
  refine va_newa (atype := .boolean) (ty := .boolean) (a0 := (N', .inl fun _ => 0)) hx hb (hts _ wa_bool) rfl hK.1 hP hD hS hA (fun cA => rfl) hn hN hbytes hcells hslots hdg (fun q cA H1 hK1 hP1 hD1 hS1 => ?_)
  have e1 : s.vm.findClass ("[" ++ FieldType.boolean.toString) = some cA := (hK1.2 6 _ rfl).2
  have e2 : s.vm.findClass ("[" ++ FieldType.boolean.toString) = some (cz 2) := (hK.1.2 2 _ rfl).2
  have e3 : cA = cz 2 := Option.some.inj (e1.symm.trans e2)
  rw [e3] at hP1 hD1
  exact kk q H1 hP1 hD1 hS1
/-- a row of references -/
theorem ct_aq (hx : p.tables.exec = Jvm.exec) (hb : c.code = cc) (hts : ∀ w ∈ am_big, w.before args s = true) {own C : String} {index t : Nat} (hown : s.vm.findClass own = some m.cls) (hcl : Cond.classLink own index C ∈ am_big) (hov : va_AO C s) (hK : ct_K D cz s) (ht : (ct_T cz)[t]? = some (cz t, .object C)) (hP : va_P D vwCl ws H) (hD : va_D A ws) (hS : va_S A s.heap H locs) (hA : ∀ q, s.heap.size ≤ q → A q) {n : Int32} {N' : Nat} (hn : ¬ n < 0) (hN : n.toNatClampNeg = N') (hbytes : N' * 4 ≤ 536870912) (hcells : cells + 1 ≤ R.cells) (hslots : slots + N' ≤ R.slots) (hdg : decode cc pc = .ok (.anewarray index, 3))
    (kk : ∀ (q : Nat) (H1 : Heap), va_P D vwCl (ws ++ [(q, .inl (cz t, N', .inr (.inr (.inr (.inr fun _ => none)))))]) H1 → va_D A (ws ++ [(q, .inl (cz t, N', .inr (.inr (.inr (.inr fun _ => none)))))]) → va_S A s.heap H1 locs → W p l e R s m args below meth c H1 locs (cells + 1) (slots + N') Q (F0 m (pc + 3) ls (.ref q :: rest))) : W p l e R s m args below meth c H locs cells slots Q (F0 m pc ls (.int n :: rest)) := by
  refine va_newq hx hb hown (hts _ hcl) hov hK.1 hP hD hS hA hn hN hbytes hcells hslots hdg (fun q cA H1 hK1 hP1 hD1 hS1 => ?_)
  obtain ⟨-, -, -, -, -, e1⟩ := (hK1.2 6 _ rfl).2
  obtain ⟨-, -, -, -, -, e2⟩ := (hK.1.2 t _ ht).2
  have e3 : cA = cz t := Option.some.inj (e1.symm.trans e2)
  rw [e3] at hP1 hD1
  exact kk q H1 hP1 hD1 hS1
/-- a field of the object that is being made -/
theorem ct_pf (hx : p.tables.exec = Jvm.exec) (hb : c.code = cc) (hts : ∀ w ∈ am_big, w.before args s = true) {C : String} {T : u_T} {N ci index : Nat} (hin : ∀ w ∈ u_ws C T N, w ∈ am_big) (ty0 : Nat → FieldType) (hty : ∀ k, k < N → parseFieldDescriptor (T k).2.2.1 = some (ty0 k)) (hnm : ∀ a, a < N → ∀ b, b < N → a ≠ b → (T a).2.1 ≠ (T b).2.1) (hown : s.vm.findClass C = some m.cls) (hin2 : meth.name = "<init>") (hK : ct_K D cz s) {h0 : Nat} {fs : List Value} (hP : va_P D vwCl ((h0, .inr (ci, fs)) :: ws) H) (hD : va_D A ((h0, .inr (ci, fs)) :: ws)) (hS : va_S A s.heap H locs) (hc : vwCl[ci]? = some (C, T, N)) (k : Nat) (hk : k < N) (hlink : Cond.fieldLink C index (T k).1 (T k).2.1 (T k).2.2.1 ∈ am_big) (hdecl : (T k).1 = C) {v : Value} (hn : narrow (ty0 k) v = v) (hfit : fits (ty0 k) v = true) (hl : k < fs.length) (hdg : decode cc pc = .ok (.putfield index, 3))
    (kk : ∀ (H1 : Heap) (locs1 : List Loc), va_P D vwCl ((h0, .inr (ci, fs.set k v)) :: ws) H1 → va_D A ((h0, .inr (ci, fs.set k v)) :: ws) → va_S A s.heap H1 locs1 → W p l e R s m args below meth c H1 locs1 cells slots Q (F0 m (pc + 3) ls rest)) : W p l e R s m args below meth c H locs cells slots Q (F0 m pc ls (v :: .ref h0 :: rest)) := by
  cases hf : (T k).2.2.2 with
  | true => exact va_putF (D := D) (ci := ci) (v := v) (ty := ty0 k) (C := C) (T := T) (N := N) hx hb hts hin ty0 hty hnm hown hK.1 hP hD hS 0 rfl hc k hk (hts _ hlink) (fun _ h9 => h9) hf hin2 hdecl (hty k hk) hn hfit hl hdg (fun H1 locs1 hP1 hD1 hS1 => kk H1 locs1 hP1 hD1 hS1)
  | false => exact va_put (D := D) (ci := ci) (v := v) (ty := ty0 k) (C := C) (T := T) (N := N) hx hb hts hin ty0 hty hnm hown hK.1 hP hD hS 0 rfl hc k hk (hts _ hlink) (fun _ h9 => h9) hf (hty k hk) hn hfit hl hdg (fun H1 locs1 hP1 hD1 hS1 => kk H1 locs1 hP1 hD1 hS1)
/-- an element of the row of ints made last -/
theorem ct_is (hx : p.tables.exec = Jvm.exec) (hb : c.code = cc) (hK : ct_K D cz s) {a : va_W} {q N' : Nat} {f : Nat → Int32} (hP : va_P D vwCl (a ++ [(q, .inl (cz 0, N', .inl f))]) H) (hD : va_D A (a ++ [(q, .inl (cz 0, N', .inl f))])) (hS : va_S A s.heap H locs) {i x : Int32} (hin : vp_in i N') (hdg : decode cc pc = .ok (.iastore, 1))
    (kk : ∀ (H1 : Heap) (locs1 : List Loc), va_P D vwCl (a ++ [(q, .inl (cz 0, N', .inl (upd f i.toNatClampNeg x)))]) H1 → va_D A (a ++ [(q, .inl (cz 0, N', .inl (upd f i.toNatClampNeg x)))]) → va_S A s.heap H1 locs1 → W p l e R s m args below meth c H1 locs1 cells slots Q (F0 m (pc + 1) ls rest)) : W p l e R s m args below meth c H locs cells slots Q (F0 m pc ls (.int x :: .int i :: .ref q :: rest)) := by
  refine va_iast hx hb hK.1 hP hD hS a.length 0 (cA := cz 0) (n := N') (f := f) (by simp) rfl hin hdg (fun H1 locs1 hP1 hD1 hS1 => kk H1 locs1 ?_ ?_ hS1)
  · have e : (a ++ [(q, (Sum.inl (cz 0, N', Sum.inl f) : va_E))]).set a.length (q, .inl (cz 0, N', .inl (upd f i.toNatClampNeg x))) = a ++ [(q, .inl (cz 0, N', .inl (upd f i.toNatClampNeg x)))] := by simp
    rw [e] at hP1
    exact hP1
  · have e : (a ++ [(q, (Sum.inl (cz 0, N', Sum.inl f) : va_E))]).set a.length (q, .inl (cz 0, N', .inl (upd f i.toNatClampNeg x))) = a ++ [(q, .inl (cz 0, N', .inl (upd f i.toNatClampNeg x)))] := by simp
    rw [e] at hD1
    exact hD1
/-- an element of a row of references -/
theorem ct_as (hx : p.tables.exec = Jvm.exec) (hb : c.code = cc) (hK : ct_K D cz s) {a b d : va_W} {q N' t ci v : Nat} {vs : List Value} {r : vw_C} {f : Nat → Option Nat} (hP : va_P D vwCl (a ++ ((q, .inl (cz t, N', .inr (.inr (.inr (.inr f))))) :: (b ++ ((v, .inr (ci, vs)) :: d)))) H) (hD : va_D A (a ++ ((q, .inl (cz t, N', .inr (.inr (.inr (.inr f))))) :: (b ++ ((v, .inr (ci, vs)) :: d))))) (hS : va_S A s.heap H locs) (ht : (ct_T cz)[t]? = some (cz t, .object r.1)) (hc : vwCl[ci]? = some r) {i : Int32} (hin : vp_in i N') (hdg : decode cc pc = .ok (.aastore, 1))
    (kk : ∀ (H1 : Heap) (locs1 : List Loc), va_P D vwCl (a ++ ((q, .inl (cz t, N', .inr (.inr (.inr (.inr (va_up f i.toNatClampNeg (some v))))))) :: (b ++ ((v, .inr (ci, vs)) :: d)))) H1 → va_D A (a ++ ((q, .inl (cz t, N', .inr (.inr (.inr (.inr (va_up f i.toNatClampNeg (some v))))))) :: (b ++ ((v, .inr (ci, vs)) :: d)))) → va_S A s.heap H1 locs1 → W p l e R s m args below meth c H1 locs1 cells slots Q (F0 m (pc + 1) ls rest)) : W p l e R s m args below meth c H locs cells slots Q (F0 m pc ls (.ref v :: .int i :: .ref q :: rest)) := by
  refine va_astq hx hb hK.1 hP hD hS a.length t (a.length + 1 + b.length) ci (cA := cz t) (r := r) (n := N') (v := v) (vs := vs) (f := f) (by simp) ht ?_ hc hin hdg (fun H1 locs1 hP1 hD1 hS1 => kk H1 locs1 ?_ ?_ hS1)
  · rw [List.getElem?_append_right (by omega), show a.length + 1 + b.length - a.length = b.length + 1 by omega, List.getElem?_cons_succ]
    simp
  · have e : ∀ x y : Nat × va_E, (a ++ (x :: (b ++ ((v, .inr (ci, vs)) :: d)))).set a.length y = a ++ (y :: (b ++ ((v, .inr (ci, vs)) :: d))) := fun x y => by simp
    rw [e] at hP1
    exact hP1
  · have e : ∀ x y : Nat × va_E, (a ++ (x :: (b ++ ((v, .inr (ci, vs)) :: d)))).set a.length y = a ++ (y :: (b ++ ((v, .inr (ci, vs)) :: d))) := fun x y => by simp
    rw [e] at hD1
    exact hD1
end CTR
