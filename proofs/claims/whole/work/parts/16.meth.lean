/-! methods of the small machine are methods of the machine -/
def am_copy (av : List Value) (h : am_H) : am_R := match av with
  | [.ref a0, .int sp, .ref a, .int dp, .int n] => if (am_kd a0).1 = 20 ∧ (am_kd a).1 = 20 ∧ ¬ sp < 0 ∧ ¬ dp < 0 ∧ ¬ n < 0 ∧ sp.toNatClampNeg + n.toNatClampNeg ≤ (am_kd a0).2 ∧ dp.toNatClampNeg + n.toNatClampNeg ≤ (am_kd a).2 then some (none, am_uf h a (va_cpy (h.1 a0) (h.1 a) sp.toNatClampNeg dp.toNatClampNeg n.toNatClampNeg)) else none
  | _ => none
def am_rk (rk : Nat) (v : Option Value) : Bool := match rk, v with
  | 0, some (.int _) => true
  | 1, some (.int x) => decide (x = 0 ∨ x = 1)
  | 2, some (.long _) => true
  | 3, none => true
  | _, _ => false
def am_sz (av : List Value) : Nat := (av.flatMap fun v => if v.category = 2 then [some v, none] else [some v]).length
/-- a method's meaning; its answer is of its kind: 0 an int, 1 a boolean, 2 a long, 3 none -/
noncomputable def am_fn (rk : Nat) (G : am_G) (cc : ByteArray) (n : Nat) (av : List Value) (h : am_H) : am_R := if am_sz av ≤ n then am_ob (am_mean G cc n av h) fun q => if am_rk rk q.1 = true then some q else none else none
theorem am_fn_of {rk : Nat} {G : am_G} {cc : ByteArray} {n : Nat} {av : List Value} {h : am_H} {r : Option Value × am_H} (hz : am_sz av ≤ n) (hb : am_rk rk r.1 = true) (k : am_Big G cc (0, am_en n av, [], h) r) : am_fn rk G cc n av h = some r := by
  unfold am_fn
  rw [if_pos hz, am_mean_of k]
  show (if _ then _ else _) = _
  rw [if_pos hb]
theorem am_fn_to {rk : Nat} {G : am_G} {cc : ByteArray} {n : Nat} {av : List Value} {h : am_H} {r : Option Value × am_H} (k : am_fn rk G cc n av h = some r) : am_sz av ≤ n ∧ am_Big G cc (0, am_en n av, [], h) r ∧ am_rk rk r.1 = true := by
  obtain ⟨h0, k1⟩ := am_if_inv k
  obtain ⟨q, h1, h2⟩ := am_ob_inv k1
  obtain ⟨h3, h4⟩ := am_if_inv h2
  cases h4
  exact ⟨h0, am_mean_to h1, h3⟩
/-- a call that the tables and the room allow -/
def am_cc (l : Launch) (D : va_G) (ad : Nat → Nat) (cA : Nat → ClassId) (A : Nat → Prop) (own : String) (rm : Room) (idx : Nat) (z : am_M) : Prop :=
  (∃ (y : MethodName) (b : ByteArray) (mL : Nat) (rt : Option FieldType) (r2 : Room) (f : List Value → am_H → am_R) (n ci : Nat) (T : u_T) (N : Nat), z = (some ci, n, f) ∧ am_Met l D ad cA A y b mL rt r2 f ∧ am_lk own idx y b mL rt n ∧ Cond.instanceMethod y ∈ am_big ∧ Cond.selects y.cls y y ∈ am_big ∧ vwCl[ci]? = some (y.cls, T, N) ∧ ci < 20 ∧ r2.cells = 0 ∧ r2.slots = 0 ∧ r2.frames + 1 ≤ rm.frames ∧ 8 + (mL + 11) + r2.locals ≤ rm.locals) ∨
  (∃ (y : MethodName) (b : ByteArray) (mL : Nat) (rt : Option FieldType) (r2 : Room) (f : List Value → am_H → am_R) (n : Nat), z = (none, n, f) ∧ am_Met l D ad cA A y b mL rt r2 f ∧ am_lk own idx y b mL rt n ∧ Cond.static y ∈ am_big ∧ r2.cells = 0 ∧ r2.slots = 0 ∧ r2.frames + 1 ≤ rm.frames ∧ 8 + (mL + 11) + r2.locals ≤ rm.locals) ∨
  (z = (none, 5, am_copy) ∧ Cond.methodLink own idx arraycopyName ∈ am_big ∧ Cond.native arraycopyName ∈ am_big ∧ Cond.static arraycopyName ∈ am_big ∧ Cond.initialized "java/lang/System" ∈ am_big ∧ 1 ≤ rm.frames ∧ 8 + (nativeFrameWords "java/lang/System" "arraycopy" 5 + 11) ≤ rm.locals)
section AMM
variable {p : Program} {l : Launch} {e : Env} {R : Room} {s : State} {m : MethodId} {args : Array Value} {below : List Frame} {meth : Method} {c : Code} {cells slots : Nat} {Q : State → Prop} {cc : ByteArray} {nL : Nat} {own : String} {D : va_G} {ad : Nat → Nat} {cA : Nat → ClassId} {A : Nat → Prop} {G : am_G}
theorem am_crC (hx : p.tables.exec = Jvm.exec) (hb : c.code = cc) (hml : c.maxLocals = nL) (hown : s.vm.findClass own = some m.cls) (hts : ∀ w ∈ am_big, w.before args s = true) (hK : va_K D vwCl (am_tys cA) s) (hD : ∀ h, va_D A (am_ws ad cA h))
    {idx : Nat} (h1 : Cond.methodLink own idx arraycopyName ∈ am_big) (h2 : Cond.native arraycopyName ∈ am_big) (h3 : Cond.static arraycopyName ∈ am_big) (h4 : Cond.initialized "java/lang/System" ∈ am_big) (h5 : 1 ≤ R.frames) (h6 : 8 + (nativeFrameWords "java/lang/System" "arraycopy" 5 + 11) ≤ R.locals) :
    am_cr p l e R s m args below meth c cells slots Q cc nL D ad cA A idx (none, 5, am_copy) := by
  intro pc ls st h H locs o hdg _ ho hsz hP hS kk
  simp only [am_call] at ho
  obtain ⟨⟨hn, hrest⟩, ho1⟩ := am_if_inv ho
  obtain ⟨q, hf, ho2⟩ := am_ob_inv ho1
  obtain ⟨v, h9⟩ := q
  obtain ⟨x0, x1, x2, x3, x4, rest, rfl⟩ : ∃ x0 x1 x2 x3 x4 rest, st = x0 :: x1 :: x2 :: x3 :: x4 :: rest := by
    rcases st with _ | ⟨x0, _ | ⟨x1, _ | ⟨x2, _ | ⟨x3, _ | ⟨x4, rest⟩⟩⟩⟩⟩
    · simp at hn
    · simp at hn
    · simp at hn
    · simp at hn
    · simp at hn
    · exact ⟨x0, x1, x2, x3, x4, rest, rfl⟩
  have hf : am_copy [x4, x3, x2, x1, x0] h = some (v, h9) := hf
  unfold am_copy at hf
  split at hf
  · rename_i a0 sp a dp n heq
    injection heq with e4 heq
    injection heq with e3 heq
    injection heq with e2 heq
    injection heq with e1 heq
    injection heq with e0 heq
    subst e4; subst e3; subst e2; subst e1; subst e0
    obtain ⟨⟨t0, t1, g1, g2, g3, g4, g5⟩, hf2⟩ := am_if_inv hf
    cases hf2
    cases ho2
    have k0 : a0 < 99 := am_lt t0 (by omega) (by omega)
    have k1 : a < 99 := am_lt t1 (by omega) (by omega)
    have hat0 := am_ws_at (ad := ad) (cA := cA) (h := h) k0
    rw [am_ce_i (Or.inl t0)] at hat0
    have hat1 := am_ws_at (ad := ad) (cA := cA) (h := h) k1
    rw [am_ce_i (Or.inl t1)] at hat1
    refine va_copyi hx hb (by rw [hml]; exact hsz.symm) hown (hts _ h1) (hts _ h2) (hts _ h3) (hts _ h4) hK hP (hD h) hS a0 a a0 a (ty := .int) hat0 hat1 (by rw [am_tys_at k0]; simp [am_ty, t0]) (by rw [am_tys_at k1]; simp [am_ty, t1]) rfl g1 g2 g3 g4 g5 (fun _ _ => rfl) h5 (by have := am_rest8 (ad := ad) rest; have hr4 : rest.length ≤ 4 := hrest; omega) (hdg rfl) (fun H1 locs1 hP1 _ hS1 => kk H1 locs1 ?_ hS1)
    rw [am_ws_set k1 (h2 := am_uf h a (va_cpy (h.1 a0) (h.1 a) sp.toNatClampNeg dp.toNatClampNeg n.toNatClampNeg)) (by rw [am_ce_i (Or.inl t1)]; simp [am_uf]) am_uf_o] at hP1
    exact hP1
  · cases hf
end AMM
theorem am_sl_len {ad : Nat → Nat} : ∀ (av : List Value), (lg_sl (av.map (am_cv ad))).length = am_sz av
  | [] => rfl
  | a :: l => by
    have ih := am_sl_len (ad := ad) l
    simp only [am_sz, lg_sl, List.flatMap_cons, List.map_cons, am_cv_cat, List.length_append] at ih ⊢
    rw [ih]
    by_cases hc : a.category = 2
    · simp [hc]
    · simp [hc]
/-- where a method begins -/
theorem am_en_lr {ad : Nat → Nat} {av : List Value} {n : Nat} (h : (lg_sl (av.map (am_cv ad))).length ≤ n) : am_lr ad ((lg_sl (av.map (am_cv ad)) ++ List.replicate (n - (lg_sl (av.map (am_cv ad))).length) Slot.unset).toArray) n (am_en n av) := by
  have hE := lv_entry (av.map (am_cv ad)) h
  have key : ∀ (av : List Value) (i : Nat) (v : Value), ((av.flatMap fun v => if v.category = 2 then [some v, none] else [some v])[i]?).join = some v → (lg_sl (av.map (am_cv ad)))[i]? = some (.val (am_cv ad v)) := by
    intro av
    induction av with
    | nil => intro i v hv; simp at hv
    | cons a l ih =>
      intro i v hv
      simp only [List.flatMap_cons, List.map_cons, lg_sl, am_cv_cat] at hv ⊢
      by_cases hc : a.category = 2
      · rw [if_pos hc] at hv ⊢
        rcases i with _ | _ | i
        · simp at hv; subst hv; rfl
        · simp at hv
        · exact ih i v (by simpa using hv)
      · rw [if_neg hc] at hv ⊢
        rcases i with _ | i
        · simp at hv; subst hv; rfl
        · exact ih i v (by simpa using hv)
  have hlen : ∀ (av : List Value), (av.flatMap fun v => if v.category = 2 then [some v, none] else [some v]).length = (lg_sl (av.map (am_cv ad))).length := by
    intro av
    induction av with
    | nil => rfl
    | cons a l ih =>
      simp only [List.flatMap_cons, List.map_cons, lg_sl, am_cv_cat, List.length_append]
      rw [ih]
      simp only [lg_sl]
      by_cases hc : a.category = 2
      · simp [hc]
      · simp [hc]
  refine ⟨?_, hE.1, hE.2.1, fun i v hv => ?_⟩
  · simp only [am_en, List.length_append, List.length_replicate]
    rw [hlen]
    omega
  · unfold am_ld am_en at hv
    rw [List.getElem?_append] at hv
    rw [List.getElem?_toArray]
    split at hv
    · rename_i hi
      have := key av i v hv
      rw [List.getElem?_append_left (by rw [← hlen]; exact hi)]
      exact this
    · rename_i hi
      rw [List.getElem?_replicate] at hv
      split at hv <;> cases hv
/-- what kind of answer a method's type is -/
def am_rt2 (rk : Nat) (ret : Option FieldType) : Prop := (rk = 0 ∧ ret = some .int) ∨ (rk = 1 ∧ ret = some .boolean) ∨ (rk = 2 ∧ ret = some .long) ∨ (rk = 3 ∧ ret = none)
theorem am_ofW {l : Launch} {y : MethodName} {ws ws' : List Cond} {rm : Room} {Pc : Array Value → State → Prop} {Qc : Array Value → State → Outcome → State → Prop} {mc ms : Nat} {free : Addr → Prop} {cc : ByteArray} {maxL : Nat} {ret : Option FieldType}
    (hy : plainFor y = true) (hw : ws = Cond.code y cc maxL ret :: ws')
    (body : ∀ p e s m args below meth c s₁, BodyLoose p l y (headSpec ws rm) cc maxL ret e s m args below meth c s₁ → c.maxLocals = maxL → Pc args s →
      W p l e (headSpec ws rm).room s m args below meth c s.heap [] 0 0 (MQ below Qc args s mc ms free) (entryFrame m args maxL)) : Met l y ws rm Pc Qc mc ms free := by
  refine MetFree.of_bodySF (code := cc) (maxLocals := maxL) (ret := ret) hy ?_ ?_
  · intro args s m h hn
    obtain ⟨meth, c, h1, h2, h3, h4, h5, h6, -, -⟩ := Cond.code_spec hn (atoms_spec (ws := ws) h _ (by rw [hw]; exact List.mem_cons_self))
    exact ⟨meth, c, h1, h2, h3, h4, h5, h6⟩
  · intro p e s m args below meth c s₁ B hml hP _
    have hh0 : s₁.heap = s.heap := by rw [B.state]; rfl
    obtain ⟨t, a1, o, b1, b2, b3⟩ := body p e s m args below meth c s₁ B hml hP s₁ hh0 (Stand.of_body B)
    exact ⟨t, o, a1, b1, b2, ⟨b3.1, b3.2⟩⟩
set_option maxHeartbeats 1000000 in
/-- a method -/
theorem am_meth {l : Launch} {D : va_G} {ad : Nat → Nat} {cA : Nat → ClassId} {A : Nat → Prop} {y : MethodName} {cc : ByteArray} {maxL : Nat} {ret : Option FieldType} {rm : Room} {G : am_G} {rk : Nat} (hplain : plainFor y = true) (hlay : am_lays) (hF : am_okF y.cls G.1) (hC : am_okC y.cls G.2.1) (hSt : am_okS y.cls G.2.2.1) (hrk : am_rt2 rk ret) (hM : ∀ idx z, G.2.2.2 idx = some z → am_cc l D ad cA A y.cls rm idx z) :
    am_Met l D ad cA A y cc maxL ret rm (am_fn rk G cc maxL) := by
  intro av h v h2 hf
  obtain ⟨hsz, ⟨n, hrun⟩, hrr⟩ := am_fn_to hf
  refine am_ofW (cc := cc) (maxL := maxL) (ret := ret) hplain rfl ?_
  intro p e s m args below meth c s₁ B hml hv
  obtain ⟨rfl, hP, hK, hD, hro⟩ := hv
  have hx := B.exec
  have hb := B.bytes
  have hr := B.returns
  have hts0 := atoms_spec (ws := Cond.code y cc maxL ret :: am_big) B.pre
  have hts : ∀ w ∈ am_big, w.before (av.map (am_cv ad)).toArray s = true := fun w hw => hts0 w (List.mem_cons_of_mem _ hw)
  have hown : s.vm.findClass y.cls = some m.cls := findClass_of_methodNamed B.named
  have hlocks := B.notSynchronized
  rw [lg_entry_eq]
  have hlen : (lg_sl (av.map (am_cv ad))).length ≤ maxL := by
    rw [am_sl_len]
    exact hsz
  refine am_sound (nL := maxL) (own := y.cls) (G := G) (A := A) (D := D) (cA := cA) (ad := ad) (r := (v, h2)) hx hb hown hts hlay hK hD hro hF hC hSt ?_ ?_ n 0 (am_en maxL av) [] h hrun s.heap [] _ hP va_S.rf (am_en_lr hlen)
  · intro idx z hz
    rcases hM idx z hz with ⟨y2, b, mL, rt, r2, f, k, ci, T, N, rfl, a1, a2, a3, a4, a5, a6, a7, a8, a9, a10⟩ | ⟨y2, b, mL, rt, r2, f, k, rfl, a1, a2, a3, a7, a8, a9, a10⟩ | ⟨rfl, a1, a2, a3, a4, a5, a6⟩
    · exact am_crV hx hb hml hown hts hK hD hro a1 a2 a3 a4 a5 a6 a7 a8 ⟨a9, a10⟩ ⟨Nat.zero_le _, Nat.zero_le _⟩
    · exact am_crS hx hb hml hown hts hK hD hro a1 a2 a3 a7 a8 ⟨a9, a10⟩ ⟨Nat.zero_le _, Nat.zero_le _⟩
    · exact am_crC hx hb hml hown hts hK hD a1 a2 a3 a4 a5 a6
  · intro pc ls H1 locs1 hP1 hS1 hcase
    have hq : ∀ t : State, t.heap = H1 → s.WarmedH t.vm → ∀ v9, v9 = v → am_Qc D ad cA A v h2 (av.map (am_cv ad)).toArray s (.returned (v9.map (am_cv ad))) t := by
      intro t ht hW v9 e9
      subst e9
      exact ⟨rfl, am_pre hP1 hK hD hro hS1 t ht hW, hS1.F ht⟩
    rcases hcase with ⟨hdg, x, hx1⟩ | ⟨hdg, x, hx1⟩ | ⟨hdg, hx1⟩
    · obtain rfl : v = some (.int x) := hx1
      rcases hrk with ⟨rfl, hrt⟩ | ⟨rfl, hrt⟩ | ⟨rfl, hrt⟩ | ⟨rfl, hrt⟩
      · rw [hrt] at hr
        exact W.iret hx hb hr (fun t ht hW => hq t ht hW (some (.int x)) rfl) hS1.2.2 hdg
      · rw [hrt] at hr
        have h01 : x = 0 ∨ x = 1 := of_decide_eq_true hrr
        exact W.zret hx hb hr (by rcases h01 with rfl | rfl <;> rfl) (fun t ht hW => hq t ht hW (some (.int x)) rfl) hS1.2.2 hdg
      · exact absurd hrr (by simp [am_rk])
      · exact absurd hrr (by simp [am_rk])
    · obtain rfl : v = some (.long x) := hx1
      rcases hrk with ⟨rfl, hrt⟩ | ⟨rfl, hrt⟩ | ⟨rfl, hrt⟩ | ⟨rfl, hrt⟩
      · exact absurd hrr (by simp [am_rk])
      · exact absurd hrr (by simp [am_rk])
      · rw [hrt] at hr
        exact W.lret hx hb hr (fun t ht hW => hq t ht hW (some (.long x)) rfl) hS1.2.2 hdg
      · exact absurd hrr (by simp [am_rk])
    · obtain rfl : v = none := hx1
      rcases hrk with ⟨rfl, hrt⟩ | ⟨rfl, hrt⟩ | ⟨rfl, hrt⟩ | ⟨rfl, hrt⟩
      · exact absurd hrr (by simp [am_rk])
      · exact absurd hrr (by simp [am_rk])
      · exact absurd hrr (by simp [am_rk])
      · rw [hrt] at hr
        exact W.vret hx hb hr (fun t ht hW => hq t ht hW none rfl) hS1.2.2 hdg
