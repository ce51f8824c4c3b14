/-! the law from its entry -/
section CTP
variable {p : Program} {l : Launch} {e : Env} {R : Room} {s : State} {m : MethodId} {args : Array Value} {below : List Frame} {meth : Method} {c : Code} {H : Heap} {locs : List Loc} {cells slots : Nat} {Q : State → Prop} {cc : ByteArray} {D : va_G} {cz : Nat → ClassId} {A : Nat → Prop} {ws : va_W} {pc : Nat} {ls : Array Slot} {rest : List Value} {nL : Nat}
/-- new, dup, a constructor that all may call -/
theorem ct_newP (hx : p.tables.exec = Jvm.exec) (hb : c.code = cc) (hml : c.maxLocals = nL) (hts : ∀ w ∈ am_big, w.before args s = true) {own C : String} {T : u_T} {N ci index idx2 maxL mc ms : Nat} {y : MethodName} {bytes : ByteArray} {rm : Room} {fs0 : List Value} {F : (Nat → Nat) → va_W} (hown : s.vm.findClass own = some m.cls) (hM : ct_Met l D cz y bytes maxL rm mc ms ci fs0 F) (hin : ∀ w ∈ u_ws C T N, w ∈ am_big) (ty0 : Nat → FieldType) (hty : ∀ k, k < N → parseFieldDescriptor (T k).2.2.1 = some (ty0 k)) (hcl : Cond.classLink own index C ∈ am_big) (hinst : Cond.instantiable C N ∈ am_big) (hini : Cond.initialized C ∈ am_big) (hc : vwCl[ci]? = some (C, T, N)) (hfs : ∀ j, j < N → defaultValue (ty0 j) = vp_V fs0 j)
    (hy : y.cls = C) (hy1 : y.name = "<init>") (hcode : Cond.code y bytes maxL none ∈ am_big) (hlink : Cond.methodLink own idx2 y ∈ am_big) (him : Cond.instanceMethod y ∈ am_big) (hds : y.cls ≠ "java/lang/invoke/MethodHandle" ∧ y.cls ≠ "java/lang/invoke/VarHandle" ∧ (parseMethodDescriptor y.desc).map (fun d => d.parameters.length) = some 0) (hrc : rm.cells = mc) (hrs : rm.slots = ms) (hR : rm.frames + 1 ≤ R.frames ∧ 8 + (maxL + 11) + rm.locals ≤ R.locals)
    (hK : ct_K D cz s) (hP : va_P D vwCl ws H) (hD : va_D A ws) (hS : va_S A s.heap H locs) (hA : ∀ q, s.heap.size ≤ q → A q) (hls : ls.size = nL) (hrest : (rest.map fun v => v.category).sum ≤ 7) (hcells : cells + 1 + mc ≤ R.cells) (hslots : slots + N + ms ≤ R.slots) (hd1 : decode cc pc = .ok (.new index, 3)) (hd2 : decode cc (pc + 3) = .ok (.dup, 1)) (hd3 : decode cc (pc + 4) = .ok (.invokespecial idx2, 3))
    (kk : ∀ (f : Nat → Nat) (H1 : Heap) (locs1 : List Loc), va_P D vwCl (ws ++ F f) H1 → va_D A (ws ++ F f) → va_S A s.heap H1 locs1 → W p l e R s m args below meth c H1 locs1 (cells + 1 + mc) (slots + N + ms) Q (F0 m (pc + 7) ls (.ref (f 0) :: rest))) : W p l e R s m args below meth c H locs cells slots Q (F0 m pc ls rest) := by
  refine va_new (ci := ci) (fs := fs0) (C := C) (T := T) (N := N) hx hb hts hin ty0 hty hown (hts _ hcl) (hts _ hinst) (hts _ hini) hK.1 hP hD hS hA hc hfs (by omega) (by omega) hd1 (fun q H1 hP1 hD1 hS1 => ?_)
  refine lv_dup hx hb hd2 rfl ?_
  obtain ⟨hPc, hDc, hFc⟩ := ct_cut hP1 hD1 hS1 hA
  refine va_callv (va_runI (As := []) (rest := .ref q :: rest) ⟨hx, hb, hml, hown, hts⟩ (hM q H1.size) (cwI 0 hts (am_goodBig hcode) rfl hrc hrs (by rw [hy]; exact hts _ hini) (hts _ hlink) (hts _ him) hy1 hds hR) ⟨fun a U g mk z => by obtain ⟨q0, q1, qP, qK, qD⟩ := z; exact ⟨q0, q1, qP, ct_K_same (s := U) (U := U.calling g mk a) rfl qK, qD⟩, fun U hU hW => ⟨rfl, by rw [hU], by rw [hU]; exact hPc, ct_K_warm hW hK, hDc.weaken (fun _ _ _ _ => trivial)⟩⟩ rfl rfl hls rfl (lv_room (by simp only [List.map_cons, List.sum_cons]; show 1 + _ ≤ 8; omega)) hd3 ⟨by omega, by omega⟩) hS1 (fun a _ h => hFc a h) hFc (fun f t H2 locs2 ht hvm _ hB hz1 hk1 hS2 => ?_)
  obtain ⟨hf0, hP2, hD2⟩ := hB
  rw [ht] at hP2
  obtain ⟨hP3, hD3⟩ := ct_put hP1 hD1 hk1 hFc hP2 hD2
  have := kk f H2 locs2 hP3 hD3 hS2
  rw [hf0] at this
  exact this
end CTP
set_option maxHeartbeats 4000000 in
set_option maxRecDepth 100000 in
theorem whole_start {p : Program} {e : Env} {s : State} {m : MethodId} {below : List Frame} {meth : Method} {c : Code} (l : Launch) (hflags : l.flags = flags0) {b L : Nat} {xs : Nat → Int32} (hL : L ≤ 3072) (C0 : lw_At p s m meth c b L xs) : W p l e room_1 s m #[Value.ref b] below meth c s.heap [] 0 0 (lw_Z below #[Value.ref b] s) (entryFrame m ([Value.ref b] : List Value).toArray 4) := by
  obtain ⟨hx, hb, hr, hml, hown, hts, hX, hbl, hlocks, hgv⟩ := C0
  have htsB := lw_big hts
  obtain ⟨D, cz, hK⟩ := lw_K hts
  obtain ⟨A, hAe⟩ : ∃ A : Nat → Prop, A = fun q => s.heap.size ≤ q := ⟨_, rfl⟩
  have hA : ∀ q : Nat, s.heap.size ≤ q → A q := fun q h => by rw [hAe]; exact h
  have hAn : ∀ q : Nat, q < s.heap.size → ¬ A q := fun q h => by rw [hAe]; exact Nat.not_le.mpr h
  obtain ⟨ta, tb, aT, bT, aZ, bZ⟩ := lw_ro hts hgv (A := A) hAn
  have hS : va_S A s.heap s.heap [] := va_S.rf
  have hP : va_P D vwCl [] s.heap := fun k q hq => by simp at hq
  have hD : va_D A [] := ⟨fun i j p q hi => by simp at hi, fun k q hq => by simp at hq⟩
  have hl := lv_entry ([.ref b]) (n := 4) (Nat.le_of_ble_eq_true rfl)
  rw [lg_entry_eq]
  generalize (lg_sl ([.ref b]) ++ List.replicate (4 - (lg_sl ([.ref b])).length) Slot.unset).toArray = ls at hl ⊢
  have hl : lv_has ls 4 [(0, .ref b)] := hl
  refine ct_newP (cc := cL_law) (pc := 0) (ci := 8) (fs0 := fz8) (mc := 76) (ms := 1129) hx hb hml htsB hown (ct_X8 l D cz) am_ly8 tyX8 tyX8_ok wx_68 wx_69 wx_55 rfl (by decide +kernel) rfl rfl wx_72 wx_70 wx_71 (by decide +kernel) rfl rfl ⟨Nat.le_of_ble_eq_true rfl, Nat.le_of_ble_eq_true rfl⟩ hK hP hD hS hA hl.1 (Nat.le_of_ble_eq_true rfl) (Nat.le_of_ble_eq_true rfl) (Nat.le_of_ble_eq_true rfl) dL_law_0 dL_law_3 dL_law_4 (fun f H locs hP hD hS => ?_)
  refine lv_astore_n (lv' := [(1, .ref (f 0)), (0, .ref b)]) hx hb dL_law_7 rfl hl (by decide) rfl (fun ls hl => ?_)
  refine ct_newP (cc := cL_law) (pc := 8) (ci := 9) (fs0 := fz9) (mc := 21) (ms := 951) hx hb hml htsB hown (ct_X9 l D cz) am_ly9 tyX9 tyX9_ok wx_718 wx_719 wx_64 rfl (by decide +kernel) rfl rfl wx_722 wx_720 wx_721 (by decide +kernel) rfl rfl ⟨Nat.le_of_ble_eq_true rfl, Nat.le_of_ble_eq_true rfl⟩ hK hP hD hS hA hl.1 (Nat.le_of_ble_eq_true rfl) (Nat.le_of_ble_eq_true rfl) (Nat.le_of_ble_eq_true rfl) dL_law_8 dL_law_11 dL_law_12 (fun g H locs hP hD hS => ?_)
  have hP : va_P D vwCl (wW cz f g) H := hP
  have hD : va_D A (wW cz f g) := hD
  refine W.widen (k := 99) (n := 2130) (Nat.le_of_ble_eq_true rfl) (Nat.le_of_ble_eq_true rfl) ?_
  refine lv_astore_n (lv' := [(2, .ref (g 0)), (1, .ref (f 0)), (0, .ref b)]) hx hb dL_law_15 rfl hl (by decide) rfl (fun ls hl => ?_)
  refine lv_iconst (v := 0) hx hb dL_law_16 (by decide) ?_
  refine lv_istore_n (x := 0) (lv' := [(3, .int 0), (2, .ref (g 0)), (1, .ref (f 0)), (0, .ref b)]) hx hb dL_law_17 rfl hl (by decide) rfl (fun ls hl => ?_)
  have hl : lv_has ls 4 (lx_l (wA f g ta tb) b 0) := hl
  have C : lx p s m c b L xs D (wA f g ta tb) (wC cz) A := ⟨hx, hb, hml, hown, htsB, ww_K hK, fun h => ww_D hD h, ⟨aT, bT, aZ, bZ⟩, hX, hbl, hAn b hbl, hL⟩
  refine lw_loop C (fun H locs ls hS => ?_) L 0 (Nat.zero_le _) (by omega) wH H locs ls Rl_start (ww_P hP) hS hl
  refine lv_iconst (v := 1) hx hb dL_law_1150 (by decide) ?_
  refine va_forget (fun q hq => by have := hS.2.2 q hq; rw [hAe] at this; exact this) ?_
  exact lw_ret hx hb hr hlocks dL_law_1151
