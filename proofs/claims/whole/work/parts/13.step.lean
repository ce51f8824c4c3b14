/-! one step of the small machine is one instruction of the machine -/
def am_big : List Cond := lw_tbl.filter goodWord
theorem am_in {w : Cond} (i : Nat) (h : lw_tbl[i]? = some w) (g : goodWord w = true) : w ∈ am_big := List.mem_filter.mpr ⟨List.mem_of_getElem? h, g⟩
/-- what stands in the classes' words: each field's lay, by its class -/
def am_lays : Prop := ∀ ci q, vwCl[ci]? = some q → (∀ w ∈ u_ws q.1 q.2.1 q.2.2, w ∈ am_big) ∧ (∀ a, a < q.2.2 → ∀ b, b < q.2.2 → a ≠ b → (q.2.1 a).2.1 ≠ (q.2.1 b).2.1) ∧ (∃ ty0 : Nat → FieldType, ∀ k, k < q.2.2 → parseFieldDescriptor (q.2.1 k).2.2.1 = some (ty0 k)) ∧ ∀ k, k < q.2.2 → (am_ft ci k = 0 → parseFieldDescriptor (q.2.1 k).2.2.1 = some .int ∧ (q.2.1 k).2.2.2 = false) ∧ (am_ft ci k = 1 → parseFieldDescriptor (q.2.1 k).2.2.1 = some .long ∧ (q.2.1 k).2.2.2 = false) ∧ (am_ft ci k = 2 → parseFieldDescriptor (q.2.1 k).2.2.1 = some .boolean ∧ (q.2.1 k).2.2.2 = false)
/-- a class's links, as the tables have them -/
def am_okF (own : String) (F : Nat → Option (Nat × Nat)) : Prop := ∀ idx z, F idx = some z → z.1 < 10 ∧ ∃ q, vwCl[z.1]? = some q ∧ z.2 < q.2.2 ∧ Cond.fieldLink own idx (q.2.1 z.2).1 (q.2.1 z.2).2.1 (q.2.1 z.2).2.2.1 ∈ am_big
def am_okC (own : String) (K : Nat → Option Value) : Prop := ∀ idx v, K idx = some v → (∀ x, v = .int x → Cond.constant own idx x ∈ am_big) ∧ (∀ x, v = .long x → Cond.constantLong own idx x ∈ am_big)
def am_okS (own : String) (K : Nat → Option Nat) : Prop := ∀ idx k, K idx = some k → (k = 99 ∧ Cond.fieldLink own idx "StarPlates" "LEAST_SETTING" "[I" ∈ am_big) ∨ (k = 100 ∧ Cond.fieldLink own idx "StarPlates" "GREATEST_SETTING" "[I" ∈ am_big)
/-- the tables that are only read -/
def am_ro (ad : Nat → Nat) (A : Nat → Prop) (U : State) (H : Heap) : Prop := va_T .int (ad 99) 4 (fun j => .int (am_rc 99 j)) A U H ∧ va_T .int (ad 100) 4 (fun j => .int (am_rc 100 j)) A U H ∧ va_Z "StarPlates" "LEAST_SETTING" "[I" (.ref (ad 99)) A U H ∧ va_Z "StarPlates" "GREATEST_SETTING" "[I" (.ref (ad 100)) A U H
theorem am_ro_moved {ad : Nat → Nat} {A : Nat → Prop} {u U : State} {H : Heap} (hvm : u.vm.Alike U.vm) (h : am_ro ad A u H) : am_ro ad A U H := ⟨h.1.moved hvm, h.2.1.moved hvm, h.2.2.1.moved hvm, h.2.2.2.moved hvm⟩
theorem am_ro_kept {ad : Nat → Nat} {A : Nat → Prop} {U : State} {H H1 : Heap} (h : am_ro ad A U H) (hq : ∀ a : Nat, a < H.size → ¬ A a → H1[a]? = H[a]?) : am_ro ad A U H1 := ⟨h.1.kept hq, h.2.1.kept hq, h.2.2.1.kept hq, h.2.2.2.kept hq⟩
section AMS
variable {p : Program} {l : Launch} {e : Env} {R : Room} {s : State} {m : MethodId} {args : Array Value} {below : List Frame} {meth : Method} {c : Code} {cells slots : Nat} {Q : State → Prop} {cc : ByteArray} {nL : Nat} {own : String} {D : va_G} {ad : Nat → Nat} {cA : Nat → ClassId} {A : Nat → Prop} {G : am_G}
/-- what a call of the small machine is over the machine -/
def am_cr (p : Program) (l : Launch) (e : Env) (R : Room) (s : State) (m : MethodId) (args : Array Value) (below : List Frame) (meth : Method) (c : Code) (cells slots : Nat) (Q : State → Prop) (cc : ByteArray) (nL : Nat) (D : va_G) (ad : Nat → Nat) (cA : Nat → ClassId) (A : Nat → Prop) (idx : Nat) (z : am_M) : Prop :=
  ∀ (pc : Nat) (ls : Array Slot) (st : List Value) (h : am_H) (H : Heap) (locs : List Loc) (o : Option Value × List Value × am_H), (z.1 = none → decode cc pc = .ok (.invokestatic idx, 3)) → (z.1 ≠ none → decode cc pc = .ok (.invokevirtual idx, 3)) → am_call z.1 z.2.1 z.2.2 st h = some o → ls.size = nL →
    va_P D vwCl (am_ws ad cA h) H → va_S A s.heap H locs →
    (∀ (H1 : Heap) (locs1 : List Loc), va_P D vwCl (am_ws ad cA o.2.2) H1 → va_S A s.heap H1 locs1 → W p l e R s m args below meth c H1 locs1 cells slots Q (F0 m (pc + 3) ls ((o.1.toList ++ o.2.1).map (am_cv ad)))) →
    W p l e R s m args below meth c H locs cells slots Q (F0 m pc ls (st.map (am_cv ad)))
theorem am_cond (cd : Jvm.ClassFile.Cond) (hx : p.tables.exec = Jvm.exec) (hb : c.code = cc) {H : Heap} {locs : List Loc} {pc : Nat} {ls : Array Slot} {rest : List Value} {x y : Int32} {off : Int} {tgt : Nat} (hdg : decode cc pc = .ok (.if_icmp cd off, 3)) (ht : (pc : Int) + off = (tgt : Int))
    (kt : am_cd cd x y = true → W p l e R s m args below meth c H locs cells slots Q (F0 m tgt ls rest)) (kf : ¬ am_cd cd x y = true → W p l e R s m args below meth c H locs cells slots Q (F0 m (pc + 3) ls rest)) : W p l e R s m args below meth c H locs cells slots Q (F0 m pc ls (.int y :: .int x :: rest)) := by
  cases cd with
  | eq => exact lv_icmp_eq hx hb hdg ht (fun z => kt (by simp [am_cd, z])) (fun z => kf (by simp [am_cd, z]))
  | ne => exact lv_icmp_ne hx hb hdg ht (fun z => kt (by simp [am_cd, z])) (fun z => kf (by simp [am_cd, z]))
  | lt => exact lv_icmp_lt hx hb hdg ht (fun z => kt (by simp [am_cd, z])) (fun z => kf (by simp [am_cd, z]))
  | ge => exact lv_icmp_ge hx hb hdg ht (fun z => kt (by simp [am_cd, z])) (fun z => kf (by simp [am_cd, z]))
  | gt => exact lv_icmp_gt hx hb hdg ht (fun z => kt (by simp [am_cd, z])) (fun z => kf (by simp [am_cd, z]))
  | le => exact lv_icmp_le hx hb hdg ht (fun z => kt (by simp [am_cd, z])) (fun z => kf (by simp [am_cd, z]))
theorem am_cond0 (cd : Jvm.ClassFile.Cond) (hx : p.tables.exec = Jvm.exec) (hb : c.code = cc) {H : Heap} {locs : List Loc} {pc : Nat} {ls : Array Slot} {rest : List Value} {x : Int32} {off : Int} {tgt : Nat} (hdg : decode cc pc = .ok (.ifCond cd off, 3)) (ht : (pc : Int) + off = (tgt : Int))
    (kt : am_cd cd x 0 = true → W p l e R s m args below meth c H locs cells slots Q (F0 m tgt ls rest)) (kf : ¬ am_cd cd x 0 = true → W p l e R s m args below meth c H locs cells slots Q (F0 m (pc + 3) ls rest)) : W p l e R s m args below meth c H locs cells slots Q (F0 m pc ls (.int x :: rest)) := by
  cases cd with
  | eq => exact lv_if_eq hx hb hdg ht (fun z => kt (by simp [am_cd, z])) (fun z => kf (by simp [am_cd, z]))
  | ne => exact lv_if_ne hx hb hdg ht (fun z => kt (by simp [am_cd, z])) (fun z => kf (by simp [am_cd, z]))
  | lt => exact lv_if_lt hx hb hdg ht (fun z => kt (by simp [am_cd, z])) (fun z => kf (by simp [am_cd, z]))
  | ge => exact lv_if_ge hx hb hdg ht (fun z => kt (by simp [am_cd, z])) (fun z => kf (by simp [am_cd, z]))
  | gt => exact lv_if_gt hx hb hdg ht (fun z => kt (by simp [am_cd, z])) (fun z => kf (by simp [am_cd, z]))
  | le => exact lv_if_le hx hb hdg ht (fun z => kt (by simp [am_cd, z])) (fun z => kf (by simp [am_cd, z]))
set_option maxHeartbeats 4000000 in
theorem am_putf (hx : p.tables.exec = Jvm.exec) (hb : c.code = cc) (hown : s.vm.findClass own = some m.cls) (hts : ∀ w ∈ am_big, w.before args s = true) (hlay : am_lays) (hK : va_K D vwCl (am_tys cA) s) (hD : ∀ h, va_D A (am_ws ad cA h)) {F : Nat → Option (Nat × Nat)} (hF : am_okF own F)
    {pc idx k : Nat} {z : Nat × Nat} {v : Value} {h h2 : am_H} {H : Heap} {locs : List Loc} {ls : Array Slot} {rest : List Value} (hz : F idx = some z) (hk : (am_kd k).1 = z.1) (hw : am_fw z.1 z.2 k v h = some h2) (hP : va_P D vwCl (am_ws ad cA h) H) (hS : va_S A s.heap H locs) (hdg : decode cc pc = .ok (.putfield idx, 3))
    (kk : ∀ (H1 : Heap) (locs1 : List Loc), va_P D vwCl (am_ws ad cA h2) H1 → va_S A s.heap H1 locs1 → W p l e R s m args below meth c H1 locs1 cells slots Q (F0 m (pc + 3) ls rest)) : W p l e R s m args below meth c H locs cells slots Q (F0 m pc ls (am_cv ad v :: .ref (ad k) :: rest)) := by
  obtain ⟨hz10, q, hq, hjN, hlink⟩ := hF idx z hz
  obtain ⟨C, T, N⟩ := q
  have hk9 : k < 99 := am_lt hk (by omega) (by omega)
  obtain ⟨hin, hnm, ⟨ty0, hty⟩, htypes⟩ := hlay z.1 _ hq
  have hN : (am_kd k).2 = N := by
    have := am_nslots k hk9 (by omega)
    rw [hk, hq] at this
    exact (Option.some.inj this).symm
  have hat := am_ws_at (ad := ad) (cA := cA) (h := h) hk9
  rw [am_ce_o hk (by omega), hN] at hat
  have gen : ∀ (ty : FieldType), parseFieldDescriptor (T z.2).2.2.1 = some ty → (T z.2).2.2.2 = false → narrow ty v = v → fits ty v = true → am_cv ad v = v → am_ce ad cA h2 k = .inr (z.1, (((List.range N).map fun j => am_cv ad (am_fr z.1 j k h))).set z.2 v) → (∀ i, i ≠ k → h.1 i = h2.1 i ∧ h.2 i = h2.2 i) → W p l e R s m args below meth c H locs cells slots Q (F0 m pc ls (am_cv ad v :: .ref (ad k) :: rest)) := by
    intro ty hd hfin hn hfit hcv hce hoth
    rw [hcv]
    refine va_put (D := D) (cl := vwCl) (ci := z.1) (C := C) (T := T) (N := N) (own := own) (ref := (T z.2).1) (tys := am_tys cA) (ws := am_ws ad cA h) (Ts := am_big) (ty := ty) hx hb hts hin ty0 hty hnm hown hK hP (hD h) hS k hat hq z.2 hjN (hts _ hlink) (fun _ h9 => h9) hfin hd hn hfit (by simp; exact hjN) hdg (fun H1 locs1 hP1 _ hS1 => kk H1 locs1 ?_ hS1)
    rw [am_ws_set hk9 hce hoth] at hP1
    exact hP1
  obtain ⟨t0, t1, t2⟩ := htypes z.2 hjN
  unfold am_fw at hw
  split at hw
  · rename_i x f0
    cases hw
    refine gen .int (t0 f0).1 (t0 f0).2 rfl rfl rfl ?_ am_ui_o
    rw [am_ce_o hk (by omega), hN]
    refine congrArg (fun y => Sum.inr (z.1, y)) (List.ext_getElem? fun i => ?_)
    rw [List.getElem?_set]
    by_cases hi : z.2 = i
    · subst hi
      simp [hjN, am_fr, f0, am_ui, am_cv]
    · rw [if_neg hi]
      by_cases hiN : i < N
      · simp [hiN, am_fr, am_ui, Ne.symm hi]
      · simp [hiN]
  · rename_i x f0
    cases hw
    refine gen .long (t1 f0).1 (t1 f0).2 rfl rfl rfl ?_ am_ul_o
    rw [am_ce_o hk (by omega), hN]
    refine congrArg (fun y => Sum.inr (z.1, y)) (List.ext_getElem? fun i => ?_)
    rw [List.getElem?_set]
    by_cases hi : z.2 = i
    · subst hi
      simp [hjN, am_fr, f0, am_ul, am_cv]
    · rw [if_neg hi]
      by_cases hiN : i < N
      · simp [hiN, am_fr, am_ul, Ne.symm hi]
      · simp [hiN]
  · rename_i x f0
    obtain ⟨h01, hw⟩ := am_if_inv hw
    cases hw
    refine gen .boolean (t2 f0).1 (t2 f0).2 (by rcases h01 with rfl | rfl <;> rfl) (by rcases h01 with rfl | rfl <;> rfl) rfl ?_ am_ui_o
    rw [am_ce_o hk (by omega), hN]
    refine congrArg (fun y => Sum.inr (z.1, y)) (List.ext_getElem? fun i => ?_)
    rw [List.getElem?_set]
    by_cases hi : z.2 = i
    · subst hi
      simp [hjN, am_fr, f0, am_ui, am_cv]
    · rw [if_neg hi]
      by_cases hiN : i < N
      · simp [hiN, am_fr, am_ui, Ne.symm hi]
      · simp [hiN]
  · cases hw
end AMS
