/-! constructors: a contract's shape, and the call of one -/
def ct_Met (l : Launch) (D : va_G) (cz : Nat → ClassId) (y : MethodName) (bytes : ByteArray) (maxL : Nat) (rm : Room) (mc ms ci : Nat) (fs0 : List Value) (F : (Nat → Nat) → va_W) : Prop := ∀ h0 sz : Nat, Met l y (Cond.code y bytes maxL none :: am_big) rm (va_Pc [.ref h0] (fun U => U.heap.size = sz ∧ va_P D vwCl [(h0, .inr (ci, fs0))] U.heap ∧ ct_K D cz U ∧ va_D (fun _ => True) [(h0, .inr (ci, fs0))])) (va_Qv (fun _ : Nat → Nat => True) (fun f U => f 0 = h0 ∧ va_P D vwCl (F f) U.heap ∧ va_D (va_A [(h0, .inr (ci, fs0))] sz) (F f)) (va_A [(h0, .inr (ci, fs0))] sz)) mc ms (va_A [(h0, .inr (ci, fs0))] sz)
section CTN
variable {p : Program} {l : Launch} {e : Env} {R : Room} {s : State} {m : MethodId} {args : Array Value} {below : List Frame} {meth : Method} {c : Code} {H : Heap} {locs : List Loc} {cells slots : Nat} {Q : State → Prop} {cc : ByteArray} {D : va_G} {cz : Nat → ClassId} {A : Nat → Prop} {ws : va_W} {pc : Nat} {ls : Array Slot} {rest : List Value} {nL : Nat}
theorem ct_cut {q : Nat} {x : va_E} (hP : va_P D vwCl (ws ++ [(q, x)]) H) (hD : va_D A (ws ++ [(q, x)])) (hS : va_S A s.heap H locs) (hA : ∀ q, s.heap.size ≤ q → A q) : va_P D vwCl [(q, x)] H ∧ va_D A [(q, x)] ∧ ∀ a, va_A [(q, x)] H.size a → A a := by
  refine ⟨hP.sub [ws.length] (by simp), hD.sub [ws.length] (va_nd_of (by simp)) (by simp), va_free hD hS hA [ws.length] (by simp)⟩
theorem ct_put {q : Nat} {x : va_E} {w1 : va_W} {H1 : Heap} (hP : va_P D vwCl (ws ++ [(q, x)]) H) (hD : va_D A (ws ++ [(q, x)])) (hk : ∀ a : Nat, a < H.size → ¬ va_A [(q, x)] H.size a → H1[a]? = H[a]?) (hF : ∀ a, va_A [(q, x)] H.size a → A a) (hP1 : va_P D vwCl w1 H1) (hD1 : va_D (va_A [(q, x)] H.size) w1) : va_P D vwCl (ws ++ w1) H1 ∧ va_D A (ws ++ w1) := by
  refine va_join (wc := [(q, x)]) (wr := ws) hP hD [ws.length] (List.range ws.length) (by simp) ?_ (va_nd_of List.nodup_range) ?_ hk hF hP1 hD1
  · apply List.ext_getElem?
    intro i
    rw [List.getElem?_map, List.getElem?_map]
    by_cases hi : i < ws.length
    · rw [List.getElem?_range hi]
      simp [List.getElem?_append_left hi, hi]
    · rw [List.getElem?_eq_none (by simp; omega), List.getElem?_eq_none (by omega)]
      rfl
  · intro i hi
    rw [List.mem_range] at hi
    simp
    omega
/-- new, dup, the constructor of a nest mate -/
theorem ct_new (hx : p.tables.exec = Jvm.exec) (hb : c.code = cc) (hml : c.maxLocals = nL) (hts : ∀ w ∈ am_big, w.before args s = true) {own C : String} {T : u_T} {N ci index idx2 maxL mc ms : Nat} {y : MethodName} {bytes : ByteArray} {rm : Room} {fs0 : List Value} {F : (Nat → Nat) → va_W} (hown : s.vm.findClass own = some m.cls) (hM : ct_Met l D cz y bytes maxL rm mc ms ci fs0 F) (hin : ∀ w ∈ u_ws C T N, w ∈ am_big) (ty0 : Nat → FieldType) (hty : ∀ k, k < N → parseFieldDescriptor (T k).2.2.1 = some (ty0 k)) (hcl : Cond.classLink own index C ∈ am_big) (hinst : Cond.instantiable C N ∈ am_big) (hini : Cond.initialized C ∈ am_big) (hc : vwCl[ci]? = some (C, T, N)) (hfs : ∀ j, j < N → defaultValue (ty0 j) = vp_V fs0 j)
    (hy : y.cls = C) (hy1 : y.name = "<init>") (hcode : Cond.code y bytes maxL none ∈ am_big) (hlink : va_Nw (.methodLinkNest own idx2 y "StarPlates") s) (him : Cond.instanceMethod y ∈ am_big) (hds : y.cls ≠ "java/lang/invoke/MethodHandle" ∧ y.cls ≠ "java/lang/invoke/VarHandle" ∧ (parseMethodDescriptor y.desc).map (fun d => d.parameters.length) = some 0) (hrc : rm.cells = mc) (hrs : rm.slots = ms) (hR : rm.frames + 1 ≤ R.frames ∧ 8 + (maxL + 11) + rm.locals ≤ R.locals)
    (hK : ct_K D cz s) (hP : va_P D vwCl ws H) (hD : va_D A ws) (hS : va_S A s.heap H locs) (hA : ∀ q, s.heap.size ≤ q → A q) (hls : ls.size = nL) (hrest : (rest.map fun v => v.category).sum ≤ 7) (hcells : cells + 1 + mc ≤ R.cells) (hslots : slots + N + ms ≤ R.slots) (hd1 : decode cc pc = .ok (.new index, 3)) (hd2 : decode cc (pc + 3) = .ok (.dup, 1)) (hd3 : decode cc (pc + 4) = .ok (.invokespecial idx2, 3))
    (kk : ∀ (f : Nat → Nat) (H1 : Heap) (locs1 : List Loc), va_P D vwCl (ws ++ F f) H1 → va_D A (ws ++ F f) → va_S A s.heap H1 locs1 → W p l e R s m args below meth c H1 locs1 (cells + 1 + mc) (slots + N + ms) Q (F0 m (pc + 7) ls (.ref (f 0) :: rest))) : W p l e R s m args below meth c H locs cells slots Q (F0 m pc ls rest) := by
  refine va_new (ci := ci) (fs := fs0) (C := C) (T := T) (N := N) hx hb hts hin ty0 hty hown (hts _ hcl) (hts _ hinst) (hts _ hini) hK.1 hP hD hS hA hc hfs (by omega) (by omega) hd1 (fun q H1 hP1 hD1 hS1 => ?_)
  refine lv_dup hx hb hd2 rfl ?_
  obtain ⟨hPc, hDc, hFc⟩ := ct_cut hP1 hD1 hS1 hA
  refine va_callv (va_runIN (As := []) (rest := .ref q :: rest) ⟨hx, hb, hml, hown, hts⟩ (hM q H1.size) ⟨va_cnB 0 hts (am_goodBig hcode) rfl hrc hrs hlink (by rw [hy]; exact hts _ hini) hds hR, hy1, hts _ him⟩ ⟨fun a U g mk z => by obtain ⟨q0, q1, qP, qK, qD⟩ := z; exact ⟨q0, q1, qP, ct_K_same (s := U) (U := U.calling g mk a) rfl qK, qD⟩, fun U hU hW => ⟨rfl, by rw [hU], by rw [hU]; exact hPc, ct_K_warm hW hK, hDc.weaken (fun _ _ _ _ => trivial)⟩⟩ rfl rfl hls rfl (lv_room (by simp only [List.map_cons, List.sum_cons]; show 1 + _ ≤ 8; omega)) hd3 ⟨by omega, by omega⟩) hS1 (fun a _ h => hFc a h) hFc (fun f t H2 locs2 ht hvm _ hB hz1 hk1 hS2 => ?_)
  obtain ⟨hf0, hP2, hD2⟩ := hB
  rw [ht] at hP2
  obtain ⟨hP3, hD3⟩ := ct_put hP1 hD1 hk1 hFc hP2 hD2
  have := kk f H2 locs2 hP3 hD3 hS2
  rw [hf0] at this
  exact this
end CTN
