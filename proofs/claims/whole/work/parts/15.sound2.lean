/-! calls, runs, methods -/
theorem am_nl {pc : Nat} {L : am_L} {st : List Value} {h : am_H} {r : Option Value × am_H} : ¬ am_nx pc L st h = some (.inl r) := fun e => by cases e
theorem am_noret {G : am_G} {i : Instr} {pc : Nat} {L : am_L} {st : List Value} {h : am_H} {r : Option Value × am_H} (h1 : i ≠ .ireturn) (h2 : i ≠ .lreturn) (h3 : i ≠ .return_) : ¬ am_ex G i pc L st h = some (.inl r) := by
  intro e
  unfold am_ex at e
  split at e
  all_goals first
    | exact h1 rfl
    | exact h2 rfl
    | exact h3 rfl
    | cases e; done
    | (revert e; simp only [am_1i, am_2i, am_1l, am_2l, am_li, am_1r, am_ri, am_rii, am_ril, am_vi, am_vl, am_vr, am_jp, am_ob, am_ix, am_nx]; (repeat' split) <;> (intro e; cases e))
def am_Wd (D : va_G) (ad : Nat → Nat) (cA : Nat → ClassId) (A : Nat → Prop) (h : am_H) (U : State) : Prop := va_P D vwCl (am_ws ad cA h) U.heap ∧ va_K D vwCl (am_tys cA) U ∧ (∀ h2, va_D A (am_ws ad cA h2)) ∧ am_ro ad A U U.heap
def am_Pc (D : va_G) (ad : Nat → Nat) (cA : Nat → ClassId) (A : Nat → Prop) (av : List Value) (h : am_H) : Array Value → State → Prop := va_Pc (av.map (am_cv ad)) (am_Wd D ad cA A h)
def am_Qc (D : va_G) (ad : Nat → Nat) (cA : Nat → ClassId) (A : Nat → Prop) (v : Option Value) (h : am_H) : Array Value → State → Outcome → State → Prop := fun _ st o t => o = .returned (v.map (am_cv ad)) ∧ am_Wd D ad cA A h t ∧ va_F A st t
/-- a method's contract: what it means in the small machine it does -/
def am_Met (l : Launch) (D : va_G) (ad : Nat → Nat) (cA : Nat → ClassId) (A : Nat → Prop) (y : MethodName) (cc : ByteArray) (maxL : Nat) (ret : Option FieldType) (rm : Room) (f : List Value → am_H → am_R) : Prop :=
  ∀ (av : List Value) (h : am_H) (v : Option Value) (h2 : am_H), f av h = some (v, h2) → Met l y (Cond.code y cc maxL ret :: am_big) rm (am_Pc D ad cA A av h) (am_Qc D ad cA A v h2) 0 0 A
theorem am_blind (D : va_G) (ad : Nat → Nat) (cA : Nat → ClassId) (A : Nat → Prop) (av : List Value) (h : am_H) : FrameBlind (am_Pc D ad cA A av h) := fun a U g mk q => by
  obtain ⟨q0, qP, qK, qD, qR⟩ := q
  exact ⟨q0, qP, va_K.moved (u := U) (U := U.calling g mk a) (Vm.Alike.refl U.vm) qK, qD, am_ro_moved (u := U) (U := U.calling g mk a) (Vm.Alike.refl U.vm) qR⟩
theorem am_goodBig {y : MethodName} {cc : ByteArray} {maxL : Nat} {ret : Option FieldType} (hc : Cond.code y cc maxL ret ∈ am_big) : GoodIn am_big (Cond.code y cc maxL ret :: am_big) := by
  intro w hw
  have hm : w ∈ am_big := by
    rcases List.mem_cons.mp hw with rfl | h
    · exact hc
    · exact h
  exact ⟨hm, good_of_word (List.mem_filter.mp hm).2⟩
theorem am_rest8 {ad : Nat → Nat} : ∀ (r : List Value), ((r.map (am_cv ad)).map fun v => v.category).sum ≤ 2 * r.length
  | [] => Nat.le_refl _
  | v :: r => by
    have h := am_rest8 (ad := ad) r
    have hc : (am_cv ad v).category ≤ 2 := by rcases lv_cat (am_cv ad v) with z | z <;> omega
    simp only [List.map_cons, List.sum_cons, List.length_cons]
    simp only [List.map_map] at h ⊢
    omega
/-- a link to a method, as the tables have it -/
def am_lk (own : String) (idx : Nat) (y : MethodName) (cc : ByteArray) (maxL : Nat) (ret : Option FieldType) (n : Nat) : Prop :=
  Cond.code y cc maxL ret ∈ am_big ∧ Cond.initialized y.cls ∈ am_big ∧ Cond.methodLink own idx y ∈ am_big ∧ (y.cls ≠ "java/lang/invoke/MethodHandle" ∧ y.cls ≠ "java/lang/invoke/VarHandle" ∧ (parseMethodDescriptor y.desc).map (fun d => d.parameters.length) = some n)
section AMC
variable {p : Program} {l : Launch} {e : Env} {R : Room} {s : State} {m : MethodId} {args : Array Value} {below : List Frame} {meth : Method} {c : Code} {cells slots : Nat} {Q : State → Prop} {cc : ByteArray} {nL : Nat} {own : String} {D : va_G} {ad : Nat → Nat} {cA : Nat → ClassId} {A : Nat → Prop} {G : am_G}
theorem am_after {H : Heap} {locs : List Loc} {pc : Nat} {ls : Array Slot} {st0 rest : List Value} {a : Array Value} {v : Option Value} {h2 : am_H} (hr : va_Run p l e R s m args below meth c H locs cells slots 0 0 (F0 m pc ls st0) rest (am_Qc D ad cA A v h2 a) A) (hS : va_S A s.heap H locs)
    (kk : ∀ (H1 : Heap) (locs1 : List Loc), va_P D vwCl (am_ws ad cA h2) H1 → va_S A s.heap H1 locs1 → W p l e R s m args below meth c H1 locs1 cells slots Q (F0 m (pc + 3) ls ((v.map (am_cv ad)).toList ++ rest))) : W p l e R s m args below meth c H locs cells slots Q (F0 m pc ls st0) := by
  intro T hT X
  obtain ⟨v2, st₀, t, T', L, h0, X', hL, e1, e2, ⟨hv, hWd, hz, hk⟩, st⟩ := hr T hT X
  have hv : v2 = v.map (am_cv ad) := by injection hv
  subst hv
  rw [h0] at hz hk
  obtain ⟨t2, a1, b1⟩ := kk T'.heap (locs ++ L) (by rw [e1]; exact hWd.1)
    ⟨Nat.le_trans hS.1 (by rw [e1]; exact hz), fun q h1 h2 => by rw [e1, hk q (Nat.lt_of_lt_of_le h1 hS.1) h2]; exact hS.2.1 q h1 h2, fun q hq => by
      rcases List.mem_append.mp hq with h | h
      · exact hS.2.2 q h
      · exact hL q h⟩ T' rfl X'
  exact ⟨t2, st t2 a1, b1⟩
theorem am_pre {h : am_H} {H : Heap} {locs : List Loc} (hP : va_P D vwCl (am_ws ad cA h) H) (hK : va_K D vwCl (am_tys cA) s) (hD : ∀ h, va_D A (am_ws ad cA h)) (hro : am_ro ad A s s.heap) (hS : va_S A s.heap H locs) (U : State) (hU : U.heap = H) (hW : s.WarmedH U.vm) : am_Wd D ad cA A h U :=
  ⟨by rw [hU]; exact hP, va_K.moved hW.alike hK, hD, by rw [hU]; exact am_ro_moved hW.alike (am_ro_kept hro hS.2.1)⟩
theorem am_crV (hx : p.tables.exec = Jvm.exec) (hb : c.code = cc) (hml : c.maxLocals = nL) (hown : s.vm.findClass own = some m.cls) (hts : ∀ w ∈ am_big, w.before args s = true) (hK : va_K D vwCl (am_tys cA) s) (hD : ∀ h, va_D A (am_ws ad cA h)) (hro : am_ro ad A s s.heap)
    {idx n ci : Nat} {y : MethodName} {bytes : ByteArray} {maxL : Nat} {ret : Option FieldType} {rm : Room} {f : List Value → am_H → am_R} {T : u_T} {N : Nat} (hM : am_Met l D ad cA A y bytes maxL ret rm f) (hlk : am_lk own idx y bytes maxL ret n) (hin : Cond.instanceMethod y ∈ am_big) (hsel : Cond.selects y.cls y y ∈ am_big) (hq : vwCl[ci]? = some (y.cls, T, N)) (hci : ci < 20) (hrc : rm.cells = 0) (hrs : rm.slots = 0) (hR : rm.frames + 1 ≤ R.frames ∧ 8 + (maxL + 11) + rm.locals ≤ R.locals) (hcs : cells ≤ R.cells ∧ slots ≤ R.slots) :
    am_cr p l e R s m args below meth c cells slots Q cc nL D ad cA A idx (some ci, n, f) := by
  intro pc ls st h H locs o _ hdg ho hsz hP hS kk
  simp only [am_call] at ho
  split at ho
  · rename_i b rest hdrop
    obtain ⟨⟨hkb, hrest⟩, ho⟩ := am_if_inv ho
    obtain ⟨q, hf, ho⟩ := am_ob_inv ho
    obtain ⟨v, h2⟩ := q
    cases ho
    have hst : st = st.take n ++ .ref b :: rest := by rw [← hdrop]; exact (List.take_append_drop n st).symm
    have hlen : (st.take n).length = n := by
      rw [List.length_take]
      have : n < st.length := by
        rcases Nat.lt_or_ge n st.length with z | z
        · exact z
        · rw [List.drop_eq_nil_of_le z] at hdrop; cases hdrop
      omega
    have hstk : st.map (am_cv ad) = (((st.take n).reverse).map (am_cv ad)).reverse ++ .ref (ad b) :: rest.map (am_cv ad) := by
      have h1 := congrArg (List.map (am_cv ad)) hst
      rw [List.map_append, List.map_cons] at h1
      rw [h1, List.map_reverse, List.reverse_reverse]
      rfl
    have hk9 : b < 99 := am_lt hkb (by omega) (by omega)
    have hat := am_ws_at (ad := ad) (cA := cA) (h := h) hk9
    rw [am_ce_o hkb hci] at hat
    have run := va_runV (p := p) (l := l) (e := e) (R := R) (s := s) (m := m) (args := args) (below := below) (meth := meth) (c := c) (H := H) (locs := locs) (cells := cells) (slots := slots) (g := F0 m pc ls (st.map (am_cv ad))) (b := ad b) (As := ((st.take n).reverse).map (am_cv ad)) (rest := rest.map (am_cv ad)) (Ts := am_big) (C := y.cls) (index := idx) (n := n)
      ⟨hx, hb, hml, hown, hts⟩ (hM (.ref b :: (st.take n).reverse) h v h2 hf)
      ⟨callB_of n hts (am_goodBig hlk.1) rfl hrc hrs (hts _ hlk.2.1) (hts _ hlk.2.2.1) hlk.2.2.2 hR, hts _ hin, hts _ hsel⟩
      ⟨am_blind D ad cA A _ _, va_recv hK hP hq hat, fun U hU hW => ⟨rfl, am_pre hP hK hD hro hS U hU hW⟩⟩
      rfl (by simp only [List.length_map, List.length_reverse]; exact hlen) hsz hstk (lv_room (by have := am_rest8 (ad := ad) rest; omega)) (hdg (by simp)) ⟨by omega, by omega⟩
    refine am_after run hS (fun H1 locs1 hP1 hS1 => ?_)
    have kk2 := kk H1 locs1 hP1 hS1
    have hvm : (v.toList ++ rest).map (am_cv ad) = (v.map (am_cv ad)).toList ++ rest.map (am_cv ad) := by cases v <;> rfl
    rw [hvm] at kk2
    exact kk2
  · cases ho
theorem am_crS (hx : p.tables.exec = Jvm.exec) (hb : c.code = cc) (hml : c.maxLocals = nL) (hown : s.vm.findClass own = some m.cls) (hts : ∀ w ∈ am_big, w.before args s = true) (hK : va_K D vwCl (am_tys cA) s) (hD : ∀ h, va_D A (am_ws ad cA h)) (hro : am_ro ad A s s.heap)
    {idx n : Nat} {y : MethodName} {bytes : ByteArray} {maxL : Nat} {ret : Option FieldType} {rm : Room} {f : List Value → am_H → am_R} (hM : am_Met l D ad cA A y bytes maxL ret rm f) (hlk : am_lk own idx y bytes maxL ret n) (hst : Cond.static y ∈ am_big) (hrc : rm.cells = 0) (hrs : rm.slots = 0) (hR : rm.frames + 1 ≤ R.frames ∧ 8 + (maxL + 11) + rm.locals ≤ R.locals) (hcs : cells ≤ R.cells ∧ slots ≤ R.slots) :
    am_cr p l e R s m args below meth c cells slots Q cc nL D ad cA A idx (none, n, f) := by
  intro pc ls st h H locs o hdg _ ho hsz hP hS kk
  simp only [am_call] at ho
  obtain ⟨⟨hn, hrest⟩, ho⟩ := am_if_inv ho
  obtain ⟨q, hf, ho⟩ := am_ob_inv ho
  obtain ⟨v, h2⟩ := q
  cases ho
  have hst2 : st = st.take n ++ st.drop n := (List.take_append_drop n st).symm
  have hlen : (st.take n).length = n := by
    rw [List.length_take]
    omega
  have hstk : st.map (am_cv ad) = (((st.take n).reverse).map (am_cv ad)).reverse ++ (st.drop n).map (am_cv ad) := by
    have h1 := congrArg (List.map (am_cv ad)) hst2
    rw [List.map_append] at h1
    rw [h1, List.map_reverse, List.reverse_reverse]
  have run := va_runS (p := p) (l := l) (e := e) (R := R) (s := s) (m := m) (args := args) (below := below) (meth := meth) (c := c) (H := H) (locs := locs) (cells := cells) (slots := slots) (g := F0 m pc ls (st.map (am_cv ad))) (As := ((st.take n).reverse).map (am_cv ad)) (rest := (st.drop n).map (am_cv ad)) (Ts := am_big) (index := idx) (n := n)
    ⟨hx, hb, hml, hown, hts⟩ (hM (st.take n).reverse h v h2 hf)
    ⟨callB_of n hts (am_goodBig hlk.1) rfl hrc hrs (hts _ hlk.2.1) (hts _ hlk.2.2.1) hlk.2.2.2 hR, hts _ hst⟩
    ⟨am_blind D ad cA A _ _, fun U hU hW => ⟨rfl, am_pre hP hK hD hro hS U hU hW⟩⟩
    rfl (by simp only [List.length_map, List.length_reverse]; exact hlen) hsz hstk (lv_room (by have := am_rest8 (ad := ad) (st.drop n); omega)) (hdg rfl) ⟨by omega, by omega⟩
  refine am_after run hS (fun H1 locs1 hP1 hS1 => ?_)
  have kk2 := kk H1 locs1 hP1 hS1
  have hvm : (v.toList ++ st.drop n).map (am_cv ad) = (v.map (am_cv ad)).toList ++ (st.drop n).map (am_cv ad) := by cases v <;> simp
  rw [hvm] at kk2
  exact kk2
/-- a run -/
theorem am_sound (hx : p.tables.exec = Jvm.exec) (hb : c.code = cc) (hown : s.vm.findClass own = some m.cls) (hts : ∀ w ∈ am_big, w.before args s = true) (hlay : am_lays) (hK : va_K D vwCl (am_tys cA) s) (hD : ∀ h, va_D A (am_ws ad cA h)) (hro : am_ro ad A s s.heap)
    (hF : am_okF own G.1) (hC : am_okC own G.2.1) (hSt : am_okS own G.2.2.1) (hM : ∀ idx z, G.2.2.2 idx = some z → am_cr p l e R s m args below meth c cells slots Q cc nL D ad cA A idx z) {r : Option Value × am_H}
    (hret : ∀ (pc : Nat) (ls : Array Slot) (H1 : Heap) (locs1 : List Loc), va_P D vwCl (am_ws ad cA r.2) H1 → va_S A s.heap H1 locs1 → ((decode cc pc = .ok (.ireturn, 1) ∧ ∃ x, r.1 = some (.int x)) ∨ (decode cc pc = .ok (.lreturn, 1) ∧ ∃ x, r.1 = some (.long x)) ∨ (decode cc pc = .ok (.return_, 1) ∧ r.1 = none)) → W p l e R s m args below meth c H1 locs1 cells slots Q (F0 m pc ls r.1.toList)) :
    ∀ (n : Nat) (pc : Nat) (L : am_L) (st : List Value) (h : am_H), am_run G cc n (pc, L, st, h) = some r → ∀ (H : Heap) (locs : List Loc) (ls : Array Slot), va_P D vwCl (am_ws ad cA h) H → va_S A s.heap H locs → am_lr ad ls nL L → W p l e R s m args below meth c H locs cells slots Q (F0 m pc ls (st.map (am_cv ad)))
  | 0, _, _, _, _, hr, _, _, _, _, _, _ => by simp [am_run] at hr
  | n + 1, pc, L, st, h, hr, H, locs, ls, hP, hS, hl => by
    cases hs : am_step G cc (pc, L, st, h) with
    | none => simp [am_run, hs] at hr
    | some z =>
      cases z with
      | inr c2 =>
        have hr2 : am_run G cc n c2 = some r := by simpa [am_run, hs] using hr
        obtain ⟨pc2, L2, st2, h2⟩ := c2
        exact am_sound1 hx hb hown hts hlay hK hD hro hF hC hSt hM hs hP hS hl (fun H1 locs1 ls1 hP1 hS1 hl1 => am_sound hx hb hown hts hlay hK hD hro hF hC hSt hM hret n pc2 L2 st2 h2 hr2 H1 locs1 ls1 hP1 hS1 hl1)
      | inl r2 =>
        have e : r2 = r := by simpa [am_run, hs] using hr
        subst e
        unfold am_step at hs
        split at hs
        case h_2 => cases hs
        rename_i qi hdg
        obtain ⟨i, k⟩ := qi
        obtain ⟨hlen, hs1⟩ := am_if_inv hs
        dsimp only at hs1 hdg hlen
        cases i with
        | ireturn =>
          obtain rfl : k = 1 := by simp [am_len] at hlen; omega
          rcases st with _ | ⟨v, _ | ⟨w, q⟩⟩
          · cases hs1
          · cases v with
            | int x => cases hs1; exact hret pc ls H locs hP hS (Or.inl ⟨hdg, x, rfl⟩)
            | _ => cases hs1
          · cases v <;> cases hs1
        | lreturn =>
          obtain rfl : k = 1 := by simp [am_len] at hlen; omega
          rcases st with _ | ⟨v, _ | ⟨w, q⟩⟩
          · cases hs1
          · cases v with
            | long x => cases hs1; exact hret pc ls H locs hP hS (Or.inr (Or.inl ⟨hdg, x, rfl⟩))
            | _ => cases hs1
          · cases v <;> cases hs1
        | return_ =>
          obtain rfl : k = 1 := by simp [am_len] at hlen; omega
          rcases st with _ | ⟨v, q⟩
          · cases hs1; exact hret pc ls H locs hP hS (Or.inr (Or.inr ⟨hdg, rfl⟩))
          · cases hs1
        | _ => exact absurd hs1 (am_noret (by intro z; cases z) (by intro z; cases z) (by intro z; cases z))
end AMC
