/-! the calls of the law -/
def lx (p : Program) (s : State) (m : MethodId) (c : Code) (b L : Nat) (xs : Nat → Int32) (D : va_G) (ad : Nat → Nat) (cA : Nat → ClassId) (A : Nat → Prop) : Prop := p.tables.exec = Jvm.exec ∧ c.code = cL_law ∧ c.maxLocals = 4 ∧ s.vm.findClass R_law = some m.cls ∧ (∀ w ∈ am_big, w.before #[Value.ref b] s = true) ∧ va_K D vwCl (am_tys cA) s ∧ (∀ h, va_D A (am_ws ad cA h)) ∧ am_ro ad A s s.heap ∧ va_X b L xs s s.heap ∧ b < s.heap.size ∧ ¬ A b ∧ L ≤ 3072
def lx_l (ad : Nat → Nat) (b i : Nat) : List (Nat × Value) := [(3, .int (nI i)), (2, .ref (ad 77)), (1, .ref (ad 0)), (0, .ref b)]
theorem rk0 {G : am_G} {cc : ByteArray} {n : Nat} {av : List Value} {h h1 : am_H} {v : Value} (e : am_fn 0 G cc n av h = some (some v, h1)) : ∃ x, v = .int x := by
  have := (am_fn_to e).2.2
  cases v <;> first | exact ⟨_, rfl⟩ | exact absurd this (by simp [am_rk])
theorem rk2 {G : am_G} {cc : ByteArray} {n : Nat} {av : List Value} {h h1 : am_H} {v : Value} (e : am_fn 2 G cc n av h = some (some v, h1)) : ∃ x, v = .long x := by
  have := (am_fn_to e).2.2
  cases v <;> first | exact ⟨_, rfl⟩ | exact absurd this (by simp [am_rk])
section LAWC
variable {p : Program} {l : Launch} {e : Env} {s : State} {m : MethodId} {below : List Frame} {meth : Method} {c : Code} {b L : Nat} {xs : Nat → Int32} {D : va_G} {ad : Nat → Nat} {cA : Nat → ClassId} {A : Nat → Prop} {Q : State → Prop}
theorem lw_arg (C : lx p s m c b L xs D ad cA A) {H : Heap} {locs : List Loc} {ls : Array Slot} {i j pc : Nat} {st : List Value} (hS : va_S A s.heap H locs) (hl : lv_has ls 4 (lx_l ad b i)) (hi : i + 6 ≤ L) (hj : j < 6) {n : Int} (hn : Int32.ofInt n = nI j) (d0 : decode cL_law pc = .ok (.aload_n 0, 1)) (d1 : decode cL_law (pc + 1) = .ok (.iload_n 3, 1)) (d2 : decode cL_law (pc + 2) = .ok (.iconst n, 1)) (d3 : decode cL_law (pc + 3) = .ok (.iadd, 1)) (d4 : decode cL_law (pc + 4) = .ok (.iaload, 1)) (kk : W p l e room_1 s m #[Value.ref b] below meth c H locs 99 2130 Q (F0 m (pc + 5) ls (.int (xs (i + j)) :: st))) : W p l e room_1 s m #[Value.ref b] below meth c H locs 99 2130 Q (F0 m pc ls st) := by
  obtain ⟨hx, hb, hml, hown, hts, hK, hD, hro, hX, hbl, hbA, hL⟩ := C
  refine lv_aload_n hx hb d0 rfl (lv_at hl 3 rfl) ?_
  refine lv_iload_n hx hb d1 rfl (lv_at hl 0 rfl) ?_
  refine lv_iconst (v := nI j) hx hb d2 hn ?_
  refine lv_iadd hx hb d3 ?_
  have e : nI i + nI j = nI (i + j) := nI_add i j
  rw [e]
  have hlt : i + j < L := by omega
  have hc : (nI (i + j)).toNatClampNeg = i + j := am_clp hlt (by omega)
  refine va_sld hx hb hX hbl hbA hS (i := nI (i + j)) ?_ d4 ?_
  · unfold vp_in
    rw [hc]
    have := nIle' (a := 0) (b := 0) (by omega) (by omega)
    intro z
    rcases z with z | z
    · rw [Int32.lt_iff_toInt_lt, nI_toInt (by omega)] at z
      have : (0 : Int32).toInt = 0 := by decide
      omega
    · omega
  · rw [hc]
    exact kk
set_option maxHeartbeats 1000000 in
theorem lc_0 (C : lx p s m c b L xs D ad cA A) {h : am_H} {H : Heap} {locs : List Loc} {ls : Array Slot} {i : Nat} (hR : Rl h) (hi : i + 6 ≤ L) (hP : va_P D vwCl (am_ws ad cA h) H) (hS : va_S A s.heap H locs) (hl : lv_has ls 4 (lx_l ad b i)) (kk : ∀ (h2 : am_H) (H2 : Heap) (locs2 : List Loc), Rl h2 → va_P D vwCl (am_ws ad cA h2) H2 → va_S A s.heap H2 locs2 → W p l e room_1 s m #[Value.ref b] below meth c H2 locs2 99 2130 Q (F0 m 1144 ls [])) : W p l e room_1 s m #[Value.ref b] below meth c H locs 99 2130 Q (F0 m 160 ls []) := by
  have C0 := C
  obtain ⟨hx, hb, hml, hown, hts, hK, hD, hro, hX, hbl, hbA, hL⟩ := C0
  obtain ⟨v, h1, h2, e1, e2, r2⟩ := r_star (xs (i + 1)) (xs (i + 2)) (xs (i + 3)) h hR
  obtain ⟨x, rfl⟩ := rk0 e1
  refine lv_aload_n hx hb dL_law_160 rfl (lv_at hl 2 rfl) ?_
  refine lw_arg C hS hl hi (j := 1) (by omega) (n := 1) rfl dL_law_161 dL_law_162 dL_law_163 dL_law_164 dL_law_165 ?_
  refine lw_arg C hS hl hi (j := 2) (by omega) (n := 2) rfl dL_law_166 dL_law_167 dL_law_168 dL_law_169 dL_law_170 ?_
  refine lw_arg C hS hl hi (j := 3) (by omega) (n := 3) rfl dL_law_171 dL_law_172 dL_law_173 dL_law_174 dL_law_175 ?_
  have q8 : am_call (some 8) 3 fX8_star [.int (xs (i + 3)), .int (xs (i + 2)), .int (xs (i + 1)), .ref 0] h = some (some (.int x), [], h1) := by rw [am_cV_3, if_pos ⟨rfl, by simp⟩, e1]; rfl
  refine am_crV (R := room_1) (cells := 99) (slots := 2130) (Q := Q) (n := 3) (ci := 8) hx hb hml hown hts hK hD hro (kX8_star l D ad cA A am_lays_ok) ⟨wx_365, wx_55, wx_362, by decide +kernel⟩ wx_363 wx_364 rfl (by decide) rfl rfl ⟨Nat.le_of_ble_eq_true rfl, Nat.le_of_ble_eq_true rfl⟩ ⟨Nat.le_refl _, Nat.le_refl _⟩ 176 ls [.int (xs (i + 3)), .int (xs (i + 2)), .int (xs (i + 1)), .ref 0] h H locs (some (.int x), [], h1) (fun z => absurd z (by simp)) (fun _ => dL_law_176) q8 hl.1 hP hS (fun H1 locs1 hP1 hS1 => ?_)
  refine W.eq (g2 := F0 m 179 ls [.int x]) rfl ?_
  refine lv_aload_n hx hb dL_law_179 rfl (lv_at hl 1 rfl) ?_
  refine lw_arg C hS1 hl hi (j := 1) (by omega) (n := 1) rfl dL_law_180 dL_law_181 dL_law_182 dL_law_183 dL_law_184 ?_
  refine lw_arg C hS1 hl hi (j := 2) (by omega) (n := 2) rfl dL_law_185 dL_law_186 dL_law_187 dL_law_188 dL_law_189 ?_
  refine lw_arg C hS1 hl hi (j := 3) (by omega) (n := 3) rfl dL_law_190 dL_law_191 dL_law_192 dL_law_193 dL_law_194 ?_
  have q9 : am_call (some 9) 3 fX9_star [.int (xs (i + 3)), .int (xs (i + 2)), .int (xs (i + 1)), .ref 77, .int x] h1 = some (some (.int x), [.int x], h2) := by rw [am_cV_3, if_pos ⟨rfl, by simp⟩, e2]; rfl
  refine am_crV (R := room_1) (cells := 99) (slots := 2130) (Q := Q) (n := 3) (ci := 9) hx hb hml hown hts hK hD hro (kX9_star l D ad cA A am_lays_ok) ⟨wx_846, wx_64, wx_843, by decide +kernel⟩ wx_844 wx_845 rfl (by decide) rfl rfl ⟨Nat.le_of_ble_eq_true rfl, Nat.le_of_ble_eq_true rfl⟩ ⟨Nat.le_refl _, Nat.le_refl _⟩ 195 ls [.int (xs (i + 3)), .int (xs (i + 2)), .int (xs (i + 1)), .ref 77, .int x] h1 H1 locs1 (some (.int x), [.int x], h2) (fun z => absurd z (by simp)) (fun _ => dL_law_195) q9 hl.1 hP1 hS1 (fun H2 locs2 hP2 hS2 => ?_)
  refine W.eq (g2 := F0 m 198 ls [.int x, .int x]) rfl ?_
  exact lv_icmp_eq (tgt := 1144) hx hb dL_law_198 (by decide) (fun _ => kk h2 H2 locs2 r2 hP2 hS2) (fun hn => absurd rfl hn)
set_option maxHeartbeats 1000000 in
theorem lc_1 (C : lx p s m c b L xs D ad cA A) {h : am_H} {H : Heap} {locs : List Loc} {ls : Array Slot} {i : Nat} (hR : Rl h) (hi : i + 6 ≤ L) (hP : va_P D vwCl (am_ws ad cA h) H) (hS : va_S A s.heap H locs) (hl : lv_has ls 4 (lx_l ad b i)) (kk : ∀ (h2 : am_H) (H2 : Heap) (locs2 : List Loc), Rl h2 → va_P D vwCl (am_ws ad cA h2) H2 → va_S A s.heap H2 locs2 → W p l e room_1 s m #[Value.ref b] below meth c H2 locs2 99 2130 Q (F0 m 1144 ls [])) : W p l e room_1 s m #[Value.ref b] below meth c H locs 99 2130 Q (F0 m 203 ls []) := by
  have C0 := C
  obtain ⟨hx, hb, hml, hown, hts, hK, hD, hro, hX, hbl, hbA, hL⟩ := C0
  obtain ⟨v, h1, h2, e1, e2, r2⟩ := r_unstar h hR
  obtain ⟨x, rfl⟩ := rk0 e1
  refine lv_aload_n hx hb dL_law_203 rfl (lv_at hl 2 rfl) ?_
  have q8 : am_call (some 8) 0 fX8_unstar [.ref 0] h = some (some (.int x), [], h1) := by rw [am_cV_0, if_pos ⟨rfl, by simp⟩, e1]; rfl
  refine am_crV (R := room_1) (cells := 99) (slots := 2130) (Q := Q) (n := 0) (ci := 8) hx hb hml hown hts hK hD hro (kX8_unstar l D ad cA A am_lays_ok) ⟨wx_380, wx_55, wx_377, by decide +kernel⟩ wx_378 wx_379 rfl (by decide) rfl rfl ⟨Nat.le_of_ble_eq_true rfl, Nat.le_of_ble_eq_true rfl⟩ ⟨Nat.le_refl _, Nat.le_refl _⟩ 204 ls [.ref 0] h H locs (some (.int x), [], h1) (fun z => absurd z (by simp)) (fun _ => dL_law_204) q8 hl.1 hP hS (fun H1 locs1 hP1 hS1 => ?_)
  refine W.eq (g2 := F0 m 207 ls [.int x]) rfl ?_
  refine lv_aload_n hx hb dL_law_207 rfl (lv_at hl 1 rfl) ?_
  have q9 : am_call (some 9) 0 fX9_unstar [.ref 77, .int x] h1 = some (some (.int x), [.int x], h2) := by rw [am_cV_0, if_pos ⟨rfl, by simp⟩, e2]; rfl
  refine am_crV (R := room_1) (cells := 99) (slots := 2130) (Q := Q) (n := 0) (ci := 9) hx hb hml hown hts hK hD hro (kX9_unstar l D ad cA A am_lays_ok) ⟨wx_861, wx_64, wx_858, by decide +kernel⟩ wx_859 wx_860 rfl (by decide) rfl rfl ⟨Nat.le_of_ble_eq_true rfl, Nat.le_of_ble_eq_true rfl⟩ ⟨Nat.le_refl _, Nat.le_refl _⟩ 208 ls [.ref 77, .int x] h1 H1 locs1 (some (.int x), [.int x], h2) (fun z => absurd z (by simp)) (fun _ => dL_law_208) q9 hl.1 hP1 hS1 (fun H2 locs2 hP2 hS2 => ?_)
  refine W.eq (g2 := F0 m 211 ls [.int x, .int x]) rfl ?_
  exact lv_icmp_eq (tgt := 1144) hx hb dL_law_211 (by decide) (fun _ => kk h2 H2 locs2 r2 hP2 hS2) (fun hn => absurd rfl hn)
set_option maxHeartbeats 1000000 in
theorem lc_2 (C : lx p s m c b L xs D ad cA A) {h : am_H} {H : Heap} {locs : List Loc} {ls : Array Slot} {i : Nat} (hR : Rl h) (hi : i + 6 ≤ L) (hP : va_P D vwCl (am_ws ad cA h) H) (hS : va_S A s.heap H locs) (hl : lv_has ls 4 (lx_l ad b i)) (kk : ∀ (h2 : am_H) (H2 : Heap) (locs2 : List Loc), Rl h2 → va_P D vwCl (am_ws ad cA h2) H2 → va_S A s.heap H2 locs2 → W p l e room_1 s m #[Value.ref b] below meth c H2 locs2 99 2130 Q (F0 m 1144 ls [])) : W p l e room_1 s m #[Value.ref b] below meth c H locs 99 2130 Q (F0 m 216 ls []) := by
  have C0 := C
  obtain ⟨hx, hb, hml, hown, hts, hK, hD, hro, hX, hbl, hbA, hL⟩ := C0
  obtain ⟨v, h1, h2, e1, e2, r2⟩ := r_spot (xs (i + 1)) (xs (i + 2)) (xs (i + 3)) (xs (i + 4)) h hR
  obtain ⟨x, rfl⟩ := rk0 e1
  refine lv_aload_n hx hb dL_law_216 rfl (lv_at hl 2 rfl) ?_
  refine lw_arg C hS hl hi (j := 1) (by omega) (n := 1) rfl dL_law_217 dL_law_218 dL_law_219 dL_law_220 dL_law_221 ?_
  refine lw_arg C hS hl hi (j := 2) (by omega) (n := 2) rfl dL_law_222 dL_law_223 dL_law_224 dL_law_225 dL_law_226 ?_
  refine lw_arg C hS hl hi (j := 3) (by omega) (n := 3) rfl dL_law_227 dL_law_228 dL_law_229 dL_law_230 dL_law_231 ?_
  refine lw_arg C hS hl hi (j := 4) (by omega) (n := 4) rfl dL_law_232 dL_law_233 dL_law_234 dL_law_235 dL_law_236 ?_
  have q8 : am_call (some 8) 4 fX8_spot [.int (xs (i + 4)), .int (xs (i + 3)), .int (xs (i + 2)), .int (xs (i + 1)), .ref 0] h = some (some (.int x), [], h1) := by rw [am_cV_4, if_pos ⟨rfl, by simp⟩, e1]; rfl
  refine am_crV (R := room_1) (cells := 99) (slots := 2130) (Q := Q) (n := 4) (ci := 8) hx hb hml hown hts hK hD hro (kX8_spot l D ad cA A am_lays_ok) ⟨wx_388, wx_55, wx_385, by decide +kernel⟩ wx_386 wx_387 rfl (by decide) rfl rfl ⟨Nat.le_of_ble_eq_true rfl, Nat.le_of_ble_eq_true rfl⟩ ⟨Nat.le_refl _, Nat.le_refl _⟩ 237 ls [.int (xs (i + 4)), .int (xs (i + 3)), .int (xs (i + 2)), .int (xs (i + 1)), .ref 0] h H locs (some (.int x), [], h1) (fun z => absurd z (by simp)) (fun _ => dL_law_237) q8 hl.1 hP hS (fun H1 locs1 hP1 hS1 => ?_)
  refine W.eq (g2 := F0 m 240 ls [.int x]) rfl ?_
  refine lv_aload_n hx hb dL_law_240 rfl (lv_at hl 1 rfl) ?_
  refine lw_arg C hS1 hl hi (j := 1) (by omega) (n := 1) rfl dL_law_241 dL_law_242 dL_law_243 dL_law_244 dL_law_245 ?_
  refine lw_arg C hS1 hl hi (j := 2) (by omega) (n := 2) rfl dL_law_246 dL_law_247 dL_law_248 dL_law_249 dL_law_250 ?_
  refine lw_arg C hS1 hl hi (j := 3) (by omega) (n := 3) rfl dL_law_251 dL_law_252 dL_law_253 dL_law_254 dL_law_255 ?_
  refine lw_arg C hS1 hl hi (j := 4) (by omega) (n := 4) rfl dL_law_256 dL_law_257 dL_law_258 dL_law_259 dL_law_260 ?_
  have q9 : am_call (some 9) 4 fX9_spot [.int (xs (i + 4)), .int (xs (i + 3)), .int (xs (i + 2)), .int (xs (i + 1)), .ref 77, .int x] h1 = some (some (.int x), [.int x], h2) := by rw [am_cV_4, if_pos ⟨rfl, by simp⟩, e2]; rfl
  refine am_crV (R := room_1) (cells := 99) (slots := 2130) (Q := Q) (n := 4) (ci := 9) hx hb hml hown hts hK hD hro (kX9_spot l D ad cA A am_lays_ok) ⟨wx_869, wx_64, wx_866, by decide +kernel⟩ wx_867 wx_868 rfl (by decide) rfl rfl ⟨Nat.le_of_ble_eq_true rfl, Nat.le_of_ble_eq_true rfl⟩ ⟨Nat.le_refl _, Nat.le_refl _⟩ 261 ls [.int (xs (i + 4)), .int (xs (i + 3)), .int (xs (i + 2)), .int (xs (i + 1)), .ref 77, .int x] h1 H1 locs1 (some (.int x), [.int x], h2) (fun z => absurd z (by simp)) (fun _ => dL_law_261) q9 hl.1 hP1 hS1 (fun H2 locs2 hP2 hS2 => ?_)
  refine W.eq (g2 := F0 m 264 ls [.int x, .int x]) rfl ?_
  exact lv_icmp_eq (tgt := 1144) hx hb dL_law_264 (by decide) (fun _ => kk h2 H2 locs2 r2 hP2 hS2) (fun hn => absurd rfl hn)
set_option maxHeartbeats 1000000 in
theorem lc_3 (C : lx p s m c b L xs D ad cA A) {h : am_H} {H : Heap} {locs : List Loc} {ls : Array Slot} {i : Nat} (hR : Rl h) (hi : i + 6 ≤ L) (hP : va_P D vwCl (am_ws ad cA h) H) (hS : va_S A s.heap H locs) (hl : lv_has ls 4 (lx_l ad b i)) (kk : ∀ (h2 : am_H) (H2 : Heap) (locs2 : List Loc), Rl h2 → va_P D vwCl (am_ws ad cA h2) H2 → va_S A s.heap H2 locs2 → W p l e room_1 s m #[Value.ref b] below meth c H2 locs2 99 2130 Q (F0 m 1144 ls [])) : W p l e room_1 s m #[Value.ref b] below meth c H locs 99 2130 Q (F0 m 269 ls []) := by
  have C0 := C
  obtain ⟨hx, hb, hml, hown, hts, hK, hD, hro, hX, hbl, hbA, hL⟩ := C0
  obtain ⟨v, h1, h2, e1, e2, r2⟩ := r_unspot (xs (i + 1)) h hR
  obtain ⟨x, rfl⟩ := rk0 e1
  refine lv_aload_n hx hb dL_law_269 rfl (lv_at hl 2 rfl) ?_
  refine lw_arg C hS hl hi (j := 1) (by omega) (n := 1) rfl dL_law_270 dL_law_271 dL_law_272 dL_law_273 dL_law_274 ?_
  have q8 : am_call (some 8) 1 fX8_unspot [.int (xs (i + 1)), .ref 0] h = some (some (.int x), [], h1) := by rw [am_cV_1, if_pos ⟨rfl, by simp⟩, e1]; rfl
  refine am_crV (R := room_1) (cells := 99) (slots := 2130) (Q := Q) (n := 1) (ci := 8) hx hb hml hown hts hK hD hro (kX8_unspot l D ad cA A am_lays_ok) ⟨wx_395, wx_55, wx_392, by decide +kernel⟩ wx_393 wx_394 rfl (by decide) rfl rfl ⟨Nat.le_of_ble_eq_true rfl, Nat.le_of_ble_eq_true rfl⟩ ⟨Nat.le_refl _, Nat.le_refl _⟩ 275 ls [.int (xs (i + 1)), .ref 0] h H locs (some (.int x), [], h1) (fun z => absurd z (by simp)) (fun _ => dL_law_275) q8 hl.1 hP hS (fun H1 locs1 hP1 hS1 => ?_)
  refine W.eq (g2 := F0 m 278 ls [.int x]) rfl ?_
  refine lv_aload_n hx hb dL_law_278 rfl (lv_at hl 1 rfl) ?_
  refine lw_arg C hS1 hl hi (j := 1) (by omega) (n := 1) rfl dL_law_279 dL_law_280 dL_law_281 dL_law_282 dL_law_283 ?_
  have q9 : am_call (some 9) 1 fX9_unspot [.int (xs (i + 1)), .ref 77, .int x] h1 = some (some (.int x), [.int x], h2) := by rw [am_cV_1, if_pos ⟨rfl, by simp⟩, e2]; rfl
  refine am_crV (R := room_1) (cells := 99) (slots := 2130) (Q := Q) (n := 1) (ci := 9) hx hb hml hown hts hK hD hro (kX9_unspot l D ad cA A am_lays_ok) ⟨wx_876, wx_64, wx_873, by decide +kernel⟩ wx_874 wx_875 rfl (by decide) rfl rfl ⟨Nat.le_of_ble_eq_true rfl, Nat.le_of_ble_eq_true rfl⟩ ⟨Nat.le_refl _, Nat.le_refl _⟩ 284 ls [.int (xs (i + 1)), .ref 77, .int x] h1 H1 locs1 (some (.int x), [.int x], h2) (fun z => absurd z (by simp)) (fun _ => dL_law_284) q9 hl.1 hP1 hS1 (fun H2 locs2 hP2 hS2 => ?_)
  refine W.eq (g2 := F0 m 287 ls [.int x, .int x]) rfl ?_
  exact lv_icmp_eq (tgt := 1144) hx hb dL_law_287 (by decide) (fun _ => kk h2 H2 locs2 r2 hP2 hS2) (fun hn => absurd rfl hn)
set_option maxHeartbeats 1000000 in
theorem lc_4 (C : lx p s m c b L xs D ad cA A) {h : am_H} {H : Heap} {locs : List Loc} {ls : Array Slot} {i : Nat} (hR : Rl h) (hi : i + 6 ≤ L) (hP : va_P D vwCl (am_ws ad cA h) H) (hS : va_S A s.heap H locs) (hl : lv_has ls 4 (lx_l ad b i)) (kk : ∀ (h2 : am_H) (H2 : Heap) (locs2 : List Loc), Rl h2 → va_P D vwCl (am_ws ad cA h2) H2 → va_S A s.heap H2 locs2 → W p l e room_1 s m #[Value.ref b] below meth c H2 locs2 99 2130 Q (F0 m 1144 ls [])) : W p l e room_1 s m #[Value.ref b] below meth c H locs 99 2130 Q (F0 m 292 ls []) := by
  have C0 := C
  obtain ⟨hx, hb, hml, hown, hts, hK, hD, hro, hX, hbl, hbA, hL⟩ := C0
  obtain ⟨v, h1, h2, e1, e2, r2⟩ := r_ofStar (xs (i + 1)) (xs (i + 2)) h hR
  obtain ⟨x, rfl⟩ := rk0 e1
  refine lv_aload_n hx hb dL_law_292 rfl (lv_at hl 2 rfl) ?_
  refine lw_arg C hS hl hi (j := 1) (by omega) (n := 1) rfl dL_law_293 dL_law_294 dL_law_295 dL_law_296 dL_law_297 ?_
  refine lw_arg C hS hl hi (j := 2) (by omega) (n := 2) rfl dL_law_298 dL_law_299 dL_law_300 dL_law_301 dL_law_302 ?_
  have q8 : am_call (some 8) 2 fX8_ofStar [.int (xs (i + 2)), .int (xs (i + 1)), .ref 0] h = some (some (.int x), [], h1) := by rw [am_cV_2, if_pos ⟨rfl, by simp⟩, e1]; rfl
  refine am_crV (R := room_1) (cells := 99) (slots := 2130) (Q := Q) (n := 2) (ci := 8) hx hb hml hown hts hK hD hro (kX8_ofStar l D ad cA A am_lays_ok) ⟨wx_399, wx_55, wx_396, by decide +kernel⟩ wx_397 wx_398 rfl (by decide) rfl rfl ⟨Nat.le_of_ble_eq_true rfl, Nat.le_of_ble_eq_true rfl⟩ ⟨Nat.le_refl _, Nat.le_refl _⟩ 303 ls [.int (xs (i + 2)), .int (xs (i + 1)), .ref 0] h H locs (some (.int x), [], h1) (fun z => absurd z (by simp)) (fun _ => dL_law_303) q8 hl.1 hP hS (fun H1 locs1 hP1 hS1 => ?_)
  refine W.eq (g2 := F0 m 306 ls [.int x]) rfl ?_
  refine lv_aload_n hx hb dL_law_306 rfl (lv_at hl 1 rfl) ?_
  refine lw_arg C hS1 hl hi (j := 1) (by omega) (n := 1) rfl dL_law_307 dL_law_308 dL_law_309 dL_law_310 dL_law_311 ?_
  refine lw_arg C hS1 hl hi (j := 2) (by omega) (n := 2) rfl dL_law_312 dL_law_313 dL_law_314 dL_law_315 dL_law_316 ?_
  have q9 : am_call (some 9) 2 fX9_ofStar [.int (xs (i + 2)), .int (xs (i + 1)), .ref 77, .int x] h1 = some (some (.int x), [.int x], h2) := by rw [am_cV_2, if_pos ⟨rfl, by simp⟩, e2]; rfl
  refine am_crV (R := room_1) (cells := 99) (slots := 2130) (Q := Q) (n := 2) (ci := 9) hx hb hml hown hts hK hD hro (kX9_ofStar l D ad cA A am_lays_ok) ⟨wx_880, wx_64, wx_877, by decide +kernel⟩ wx_878 wx_879 rfl (by decide) rfl rfl ⟨Nat.le_of_ble_eq_true rfl, Nat.le_of_ble_eq_true rfl⟩ ⟨Nat.le_refl _, Nat.le_refl _⟩ 317 ls [.int (xs (i + 2)), .int (xs (i + 1)), .ref 77, .int x] h1 H1 locs1 (some (.int x), [.int x], h2) (fun z => absurd z (by simp)) (fun _ => dL_law_317) q9 hl.1 hP1 hS1 (fun H2 locs2 hP2 hS2 => ?_)
  refine W.eq (g2 := F0 m 320 ls [.int x, .int x]) rfl ?_
  exact lv_icmp_eq (tgt := 1144) hx hb dL_law_320 (by decide) (fun _ => kk h2 H2 locs2 r2 hP2 hS2) (fun hn => absurd rfl hn)
set_option maxHeartbeats 1000000 in
theorem lc_5 (C : lx p s m c b L xs D ad cA A) {h : am_H} {H : Heap} {locs : List Loc} {ls : Array Slot} {i : Nat} (hR : Rl h) (hi : i + 6 ≤ L) (hP : va_P D vwCl (am_ws ad cA h) H) (hS : va_S A s.heap H locs) (hl : lv_has ls 4 (lx_l ad b i)) (kk : ∀ (h2 : am_H) (H2 : Heap) (locs2 : List Loc), Rl h2 → va_P D vwCl (am_ws ad cA h2) H2 → va_S A s.heap H2 locs2 → W p l e room_1 s m #[Value.ref b] below meth c H2 locs2 99 2130 Q (F0 m 1144 ls [])) : W p l e room_1 s m #[Value.ref b] below meth c H locs 99 2130 Q (F0 m 325 ls []) := by
  have C0 := C
  obtain ⟨hx, hb, hml, hown, hts, hK, hD, hro, hX, hbl, hbA, hL⟩ := C0
  obtain ⟨v, h1, h2, e1, e2, r2⟩ := r_ofSpot (xs (i + 1)) (xs (i + 2)) (xs (i + 3)) h hR
  obtain ⟨x, rfl⟩ := rk0 e1
  refine lv_aload_n hx hb dL_law_325 rfl (lv_at hl 2 rfl) ?_
  refine lw_arg C hS hl hi (j := 1) (by omega) (n := 1) rfl dL_law_326 dL_law_327 dL_law_328 dL_law_329 dL_law_330 ?_
  refine lw_arg C hS hl hi (j := 2) (by omega) (n := 2) rfl dL_law_331 dL_law_332 dL_law_333 dL_law_334 dL_law_335 ?_
  refine lw_arg C hS hl hi (j := 3) (by omega) (n := 3) rfl dL_law_336 dL_law_337 dL_law_338 dL_law_339 dL_law_340 ?_
  have q8 : am_call (some 8) 3 fX8_ofSpot [.int (xs (i + 3)), .int (xs (i + 2)), .int (xs (i + 1)), .ref 0] h = some (some (.int x), [], h1) := by rw [am_cV_3, if_pos ⟨rfl, by simp⟩, e1]; rfl
  refine am_crV (R := room_1) (cells := 99) (slots := 2130) (Q := Q) (n := 3) (ci := 8) hx hb hml hown hts hK hD hro (kX8_ofSpot l D ad cA A am_lays_ok) ⟨wx_411, wx_55, wx_408, by decide +kernel⟩ wx_409 wx_410 rfl (by decide) rfl rfl ⟨Nat.le_of_ble_eq_true rfl, Nat.le_of_ble_eq_true rfl⟩ ⟨Nat.le_refl _, Nat.le_refl _⟩ 341 ls [.int (xs (i + 3)), .int (xs (i + 2)), .int (xs (i + 1)), .ref 0] h H locs (some (.int x), [], h1) (fun z => absurd z (by simp)) (fun _ => dL_law_341) q8 hl.1 hP hS (fun H1 locs1 hP1 hS1 => ?_)
  refine W.eq (g2 := F0 m 344 ls [.int x]) rfl ?_
  refine lv_aload_n hx hb dL_law_344 rfl (lv_at hl 1 rfl) ?_
  refine lw_arg C hS1 hl hi (j := 1) (by omega) (n := 1) rfl dL_law_345 dL_law_346 dL_law_347 dL_law_348 dL_law_349 ?_
  refine lw_arg C hS1 hl hi (j := 2) (by omega) (n := 2) rfl dL_law_350 dL_law_351 dL_law_352 dL_law_353 dL_law_354 ?_
  refine lw_arg C hS1 hl hi (j := 3) (by omega) (n := 3) rfl dL_law_355 dL_law_356 dL_law_357 dL_law_358 dL_law_359 ?_
  have q9 : am_call (some 9) 3 fX9_ofSpot [.int (xs (i + 3)), .int (xs (i + 2)), .int (xs (i + 1)), .ref 77, .int x] h1 = some (some (.int x), [.int x], h2) := by rw [am_cV_3, if_pos ⟨rfl, by simp⟩, e2]; rfl
  refine am_crV (R := room_1) (cells := 99) (slots := 2130) (Q := Q) (n := 3) (ci := 9) hx hb hml hown hts hK hD hro (kX9_ofSpot l D ad cA A am_lays_ok) ⟨wx_892, wx_64, wx_889, by decide +kernel⟩ wx_890 wx_891 rfl (by decide) rfl rfl ⟨Nat.le_of_ble_eq_true rfl, Nat.le_of_ble_eq_true rfl⟩ ⟨Nat.le_refl _, Nat.le_refl _⟩ 360 ls [.int (xs (i + 3)), .int (xs (i + 2)), .int (xs (i + 1)), .ref 77, .int x] h1 H1 locs1 (some (.int x), [.int x], h2) (fun z => absurd z (by simp)) (fun _ => dL_law_360) q9 hl.1 hP1 hS1 (fun H2 locs2 hP2 hS2 => ?_)
  refine W.eq (g2 := F0 m 363 ls [.int x, .int x]) rfl ?_
  exact lv_icmp_eq (tgt := 1144) hx hb dL_law_363 (by decide) (fun _ => kk h2 H2 locs2 r2 hP2 hS2) (fun hn => absurd rfl hn)
set_option maxHeartbeats 1000000 in
theorem lc_6 (C : lx p s m c b L xs D ad cA A) {h : am_H} {H : Heap} {locs : List Loc} {ls : Array Slot} {i : Nat} (hR : Rl h) (hi : i + 6 ≤ L) (hP : va_P D vwCl (am_ws ad cA h) H) (hS : va_S A s.heap H locs) (hl : lv_has ls 4 (lx_l ad b i)) (kk : ∀ (h2 : am_H) (H2 : Heap) (locs2 : List Loc), Rl h2 → va_P D vwCl (am_ws ad cA h2) H2 → va_S A s.heap H2 locs2 → W p l e room_1 s m #[Value.ref b] below meth c H2 locs2 99 2130 Q (F0 m 1144 ls [])) : W p l e room_1 s m #[Value.ref b] below meth c H locs 99 2130 Q (F0 m 368 ls []) := by
  have C0 := C
  obtain ⟨hx, hb, hml, hown, hts, hK, hD, hro, hX, hbl, hbA, hL⟩ := C0
  obtain ⟨v, h1, h2, e1, e2, r2⟩ := r_light (xs (i + 1)) (xs (i + 2)) (xs (i + 3)) h hR
  obtain ⟨x, rfl⟩ := rk0 e1
  refine lv_aload_n hx hb dL_law_368 rfl (lv_at hl 2 rfl) ?_
  refine lw_arg C hS hl hi (j := 1) (by omega) (n := 1) rfl dL_law_369 dL_law_370 dL_law_371 dL_law_372 dL_law_373 ?_
  refine lw_arg C hS hl hi (j := 2) (by omega) (n := 2) rfl dL_law_374 dL_law_375 dL_law_376 dL_law_377 dL_law_378 ?_
  refine lw_arg C hS hl hi (j := 3) (by omega) (n := 3) rfl dL_law_379 dL_law_380 dL_law_381 dL_law_382 dL_law_383 ?_
  have q8 : am_call (some 8) 3 fX8_light [.int (xs (i + 3)), .int (xs (i + 2)), .int (xs (i + 1)), .ref 0] h = some (some (.int x), [], h1) := by rw [am_cV_3, if_pos ⟨rfl, by simp⟩, e1]; rfl
  refine am_crV (R := room_1) (cells := 99) (slots := 2130) (Q := Q) (n := 3) (ci := 8) hx hb hml hown hts hK hD hro (kX8_light l D ad cA A am_lays_ok) ⟨wx_419, wx_55, wx_416, by decide +kernel⟩ wx_417 wx_418 rfl (by decide) rfl rfl ⟨Nat.le_of_ble_eq_true rfl, Nat.le_of_ble_eq_true rfl⟩ ⟨Nat.le_refl _, Nat.le_refl _⟩ 384 ls [.int (xs (i + 3)), .int (xs (i + 2)), .int (xs (i + 1)), .ref 0] h H locs (some (.int x), [], h1) (fun z => absurd z (by simp)) (fun _ => dL_law_384) q8 hl.1 hP hS (fun H1 locs1 hP1 hS1 => ?_)
  refine W.eq (g2 := F0 m 387 ls [.int x]) rfl ?_
  refine lv_aload_n hx hb dL_law_387 rfl (lv_at hl 1 rfl) ?_
  refine lw_arg C hS1 hl hi (j := 1) (by omega) (n := 1) rfl dL_law_388 dL_law_389 dL_law_390 dL_law_391 dL_law_392 ?_
  refine lw_arg C hS1 hl hi (j := 2) (by omega) (n := 2) rfl dL_law_393 dL_law_394 dL_law_395 dL_law_396 dL_law_397 ?_
  refine lw_arg C hS1 hl hi (j := 3) (by omega) (n := 3) rfl dL_law_398 dL_law_399 dL_law_400 dL_law_401 dL_law_402 ?_
  have q9 : am_call (some 9) 3 fX9_light [.int (xs (i + 3)), .int (xs (i + 2)), .int (xs (i + 1)), .ref 77, .int x] h1 = some (some (.int x), [.int x], h2) := by rw [am_cV_3, if_pos ⟨rfl, by simp⟩, e2]; rfl
  refine am_crV (R := room_1) (cells := 99) (slots := 2130) (Q := Q) (n := 3) (ci := 9) hx hb hml hown hts hK hD hro (kX9_light l D ad cA A am_lays_ok) ⟨wx_896, wx_64, wx_893, by decide +kernel⟩ wx_894 wx_895 rfl (by decide) rfl rfl ⟨Nat.le_of_ble_eq_true rfl, Nat.le_of_ble_eq_true rfl⟩ ⟨Nat.le_refl _, Nat.le_refl _⟩ 403 ls [.int (xs (i + 3)), .int (xs (i + 2)), .int (xs (i + 1)), .ref 77, .int x] h1 H1 locs1 (some (.int x), [.int x], h2) (fun z => absurd z (by simp)) (fun _ => dL_law_403) q9 hl.1 hP1 hS1 (fun H2 locs2 hP2 hS2 => ?_)
  refine W.eq (g2 := F0 m 406 ls [.int x, .int x]) rfl ?_
  exact lv_icmp_eq (tgt := 1144) hx hb dL_law_406 (by decide) (fun _ => kk h2 H2 locs2 r2 hP2 hS2) (fun hn => absurd rfl hn)
set_option maxHeartbeats 1000000 in
theorem lc_7 (C : lx p s m c b L xs D ad cA A) {h : am_H} {H : Heap} {locs : List Loc} {ls : Array Slot} {i : Nat} (hR : Rl h) (hi : i + 6 ≤ L) (hP : va_P D vwCl (am_ws ad cA h) H) (hS : va_S A s.heap H locs) (hl : lv_has ls 4 (lx_l ad b i)) (kk : ∀ (h2 : am_H) (H2 : Heap) (locs2 : List Loc), Rl h2 → va_P D vwCl (am_ws ad cA h2) H2 → va_S A s.heap H2 locs2 → W p l e room_1 s m #[Value.ref b] below meth c H2 locs2 99 2130 Q (F0 m 1144 ls [])) : W p l e room_1 s m #[Value.ref b] below meth c H locs 99 2130 Q (F0 m 411 ls []) := by
  have C0 := C
  obtain ⟨hx, hb, hml, hown, hts, hK, hD, hro, hX, hbl, hbA, hL⟩ := C0
  obtain ⟨v, h1, h2, e1, e2, r2⟩ := r_word (xs (i + 1)) h hR
  obtain ⟨x, rfl⟩ := rk0 e1
  refine lv_aload_n hx hb dL_law_411 rfl (lv_at hl 2 rfl) ?_
  refine lw_arg C hS hl hi (j := 1) (by omega) (n := 1) rfl dL_law_412 dL_law_413 dL_law_414 dL_law_415 dL_law_416 ?_
  have q8 : am_call (some 8) 1 fX8_word [.int (xs (i + 1)), .ref 0] h = some (some (.int x), [], h1) := by rw [am_cV_1, if_pos ⟨rfl, by simp⟩, e1]; rfl
  refine am_crV (R := room_1) (cells := 99) (slots := 2130) (Q := Q) (n := 1) (ci := 8) hx hb hml hown hts hK hD hro (kX8_word l D ad cA A am_lays_ok) ⟨wx_436, wx_55, wx_433, by decide +kernel⟩ wx_434 wx_435 rfl (by decide) rfl rfl ⟨Nat.le_of_ble_eq_true rfl, Nat.le_of_ble_eq_true rfl⟩ ⟨Nat.le_refl _, Nat.le_refl _⟩ 417 ls [.int (xs (i + 1)), .ref 0] h H locs (some (.int x), [], h1) (fun z => absurd z (by simp)) (fun _ => dL_law_417) q8 hl.1 hP hS (fun H1 locs1 hP1 hS1 => ?_)
  refine W.eq (g2 := F0 m 420 ls [.int x]) rfl ?_
  refine lv_aload_n hx hb dL_law_420 rfl (lv_at hl 1 rfl) ?_
  refine lw_arg C hS1 hl hi (j := 1) (by omega) (n := 1) rfl dL_law_421 dL_law_422 dL_law_423 dL_law_424 dL_law_425 ?_
  have q9 : am_call (some 9) 1 fX9_word [.int (xs (i + 1)), .ref 77, .int x] h1 = some (some (.int x), [.int x], h2) := by rw [am_cV_1, if_pos ⟨rfl, by simp⟩, e2]; rfl
  refine am_crV (R := room_1) (cells := 99) (slots := 2130) (Q := Q) (n := 1) (ci := 9) hx hb hml hown hts hK hD hro (kX9_word l D ad cA A am_lays_ok) ⟨wx_917, wx_64, wx_914, by decide +kernel⟩ wx_915 wx_916 rfl (by decide) rfl rfl ⟨Nat.le_of_ble_eq_true rfl, Nat.le_of_ble_eq_true rfl⟩ ⟨Nat.le_refl _, Nat.le_refl _⟩ 426 ls [.int (xs (i + 1)), .ref 77, .int x] h1 H1 locs1 (some (.int x), [.int x], h2) (fun z => absurd z (by simp)) (fun _ => dL_law_426) q9 hl.1 hP1 hS1 (fun H2 locs2 hP2 hS2 => ?_)
  refine W.eq (g2 := F0 m 429 ls [.int x, .int x]) rfl ?_
  exact lv_icmp_eq (tgt := 1144) hx hb dL_law_429 (by decide) (fun _ => kk h2 H2 locs2 r2 hP2 hS2) (fun hn => absurd rfl hn)
set_option maxHeartbeats 1000000 in
theorem lc_8 (C : lx p s m c b L xs D ad cA A) {h : am_H} {H : Heap} {locs : List Loc} {ls : Array Slot} {i : Nat} (hR : Rl h) (hi : i + 6 ≤ L) (hP : va_P D vwCl (am_ws ad cA h) H) (hS : va_S A s.heap H locs) (hl : lv_has ls 4 (lx_l ad b i)) (kk : ∀ (h2 : am_H) (H2 : Heap) (locs2 : List Loc), Rl h2 → va_P D vwCl (am_ws ad cA h2) H2 → va_S A s.heap H2 locs2 → W p l e room_1 s m #[Value.ref b] below meth c H2 locs2 99 2130 Q (F0 m 1144 ls [])) : W p l e room_1 s m #[Value.ref b] below meth c H locs 99 2130 Q (F0 m 434 ls []) := by
  have C0 := C
  obtain ⟨hx, hb, hml, hown, hts, hK, hD, hro, hX, hbl, hbA, hL⟩ := C0
  obtain ⟨v, h1, h2, e1, e2, r2⟩ := r_number (xs (i + 1)) h hR
  obtain ⟨x, rfl⟩ := rk0 e1
  refine lv_aload_n hx hb dL_law_434 rfl (lv_at hl 2 rfl) ?_
  refine lw_arg C hS hl hi (j := 1) (by omega) (n := 1) rfl dL_law_435 dL_law_436 dL_law_437 dL_law_438 dL_law_439 ?_
  have q8 : am_call (some 8) 1 fX8_number [.int (xs (i + 1)), .ref 0] h = some (some (.int x), [], h1) := by rw [am_cV_1, if_pos ⟨rfl, by simp⟩, e1]; rfl
  refine am_crV (R := room_1) (cells := 99) (slots := 2130) (Q := Q) (n := 1) (ci := 8) hx hb hml hown hts hK hD hro (kX8_number l D ad cA A am_lays_ok) ⟨wx_450, wx_55, wx_447, by decide +kernel⟩ wx_448 wx_449 rfl (by decide) rfl rfl ⟨Nat.le_of_ble_eq_true rfl, Nat.le_of_ble_eq_true rfl⟩ ⟨Nat.le_refl _, Nat.le_refl _⟩ 440 ls [.int (xs (i + 1)), .ref 0] h H locs (some (.int x), [], h1) (fun z => absurd z (by simp)) (fun _ => dL_law_440) q8 hl.1 hP hS (fun H1 locs1 hP1 hS1 => ?_)
  refine W.eq (g2 := F0 m 443 ls [.int x]) rfl ?_
  refine lv_aload_n hx hb dL_law_443 rfl (lv_at hl 1 rfl) ?_
  refine lw_arg C hS1 hl hi (j := 1) (by omega) (n := 1) rfl dL_law_444 dL_law_445 dL_law_446 dL_law_447 dL_law_448 ?_
  have q9 : am_call (some 9) 1 fX9_number [.int (xs (i + 1)), .ref 77, .int x] h1 = some (some (.int x), [.int x], h2) := by rw [am_cV_1, if_pos ⟨rfl, by simp⟩, e2]; rfl
  refine am_crV (R := room_1) (cells := 99) (slots := 2130) (Q := Q) (n := 1) (ci := 9) hx hb hml hown hts hK hD hro (kX9_number l D ad cA A am_lays_ok) ⟨wx_925, wx_64, wx_922, by decide +kernel⟩ wx_923 wx_924 rfl (by decide) rfl rfl ⟨Nat.le_of_ble_eq_true rfl, Nat.le_of_ble_eq_true rfl⟩ ⟨Nat.le_refl _, Nat.le_refl _⟩ 449 ls [.int (xs (i + 1)), .ref 77, .int x] h1 H1 locs1 (some (.int x), [.int x], h2) (fun z => absurd z (by simp)) (fun _ => dL_law_449) q9 hl.1 hP1 hS1 (fun H2 locs2 hP2 hS2 => ?_)
  refine W.eq (g2 := F0 m 452 ls [.int x, .int x]) rfl ?_
  exact lv_icmp_eq (tgt := 1144) hx hb dL_law_452 (by decide) (fun _ => kk h2 H2 locs2 r2 hP2 hS2) (fun hn => absurd rfl hn)
set_option maxHeartbeats 1000000 in
theorem lc_9 (C : lx p s m c b L xs D ad cA A) {h : am_H} {H : Heap} {locs : List Loc} {ls : Array Slot} {i : Nat} (hR : Rl h) (hi : i + 6 ≤ L) (hP : va_P D vwCl (am_ws ad cA h) H) (hS : va_S A s.heap H locs) (hl : lv_has ls 4 (lx_l ad b i)) (kk : ∀ (h2 : am_H) (H2 : Heap) (locs2 : List Loc), Rl h2 → va_P D vwCl (am_ws ad cA h2) H2 → va_S A s.heap H2 locs2 → W p l e room_1 s m #[Value.ref b] below meth c H2 locs2 99 2130 Q (F0 m 1144 ls [])) : W p l e room_1 s m #[Value.ref b] below meth c H locs 99 2130 Q (F0 m 457 ls []) := by
  have C0 := C
  obtain ⟨hx, hb, hml, hown, hts, hK, hD, hro, hX, hbl, hbA, hL⟩ := C0
  obtain ⟨v, h1, h2, e1, e2, r2⟩ := r_set (xs (i + 1)) (xs (i + 2)) h hR
  obtain ⟨x, rfl⟩ := rk0 e1
  refine lv_aload_n hx hb dL_law_457 rfl (lv_at hl 2 rfl) ?_
  refine lw_arg C hS hl hi (j := 1) (by omega) (n := 1) rfl dL_law_458 dL_law_459 dL_law_460 dL_law_461 dL_law_462 ?_
  refine lw_arg C hS hl hi (j := 2) (by omega) (n := 2) rfl dL_law_463 dL_law_464 dL_law_465 dL_law_466 dL_law_467 ?_
  have q8 : am_call (some 8) 2 fX8_set [.int (xs (i + 2)), .int (xs (i + 1)), .ref 0] h = some (some (.int x), [], h1) := by rw [am_cV_2, if_pos ⟨rfl, by simp⟩, e1]; rfl
  refine am_crV (R := room_1) (cells := 99) (slots := 2130) (Q := Q) (n := 2) (ci := 8) hx hb hml hown hts hK hD hro (kX8_set l D ad cA A am_lays_ok) ⟨wx_454, wx_55, wx_451, by decide +kernel⟩ wx_452 wx_453 rfl (by decide) rfl rfl ⟨Nat.le_of_ble_eq_true rfl, Nat.le_of_ble_eq_true rfl⟩ ⟨Nat.le_refl _, Nat.le_refl _⟩ 468 ls [.int (xs (i + 2)), .int (xs (i + 1)), .ref 0] h H locs (some (.int x), [], h1) (fun z => absurd z (by simp)) (fun _ => dL_law_468) q8 hl.1 hP hS (fun H1 locs1 hP1 hS1 => ?_)
  refine W.eq (g2 := F0 m 471 ls [.int x]) rfl ?_
  refine lv_aload_n hx hb dL_law_471 rfl (lv_at hl 1 rfl) ?_
  refine lw_arg C hS1 hl hi (j := 1) (by omega) (n := 1) rfl dL_law_472 dL_law_473 dL_law_474 dL_law_475 dL_law_476 ?_
  refine lw_arg C hS1 hl hi (j := 2) (by omega) (n := 2) rfl dL_law_477 dL_law_478 dL_law_479 dL_law_480 dL_law_481 ?_
  have q9 : am_call (some 9) 2 fX9_set [.int (xs (i + 2)), .int (xs (i + 1)), .ref 77, .int x] h1 = some (some (.int x), [.int x], h2) := by rw [am_cV_2, if_pos ⟨rfl, by simp⟩, e2]; rfl
  refine am_crV (R := room_1) (cells := 99) (slots := 2130) (Q := Q) (n := 2) (ci := 9) hx hb hml hown hts hK hD hro (kX9_set l D ad cA A am_lays_ok) ⟨wx_930, wx_64, wx_927, by decide +kernel⟩ wx_928 wx_929 rfl (by decide) rfl rfl ⟨Nat.le_of_ble_eq_true rfl, Nat.le_of_ble_eq_true rfl⟩ ⟨Nat.le_refl _, Nat.le_refl _⟩ 482 ls [.int (xs (i + 2)), .int (xs (i + 1)), .ref 77, .int x] h1 H1 locs1 (some (.int x), [.int x], h2) (fun z => absurd z (by simp)) (fun _ => dL_law_482) q9 hl.1 hP1 hS1 (fun H2 locs2 hP2 hS2 => ?_)
  refine W.eq (g2 := F0 m 485 ls [.int x, .int x]) rfl ?_
  exact lv_icmp_eq (tgt := 1144) hx hb dL_law_485 (by decide) (fun _ => kk h2 H2 locs2 r2 hP2 hS2) (fun hn => absurd rfl hn)
set_option maxHeartbeats 1000000 in
theorem lc_10 (C : lx p s m c b L xs D ad cA A) {h : am_H} {H : Heap} {locs : List Loc} {ls : Array Slot} {i : Nat} (hR : Rl h) (hi : i + 6 ≤ L) (hP : va_P D vwCl (am_ws ad cA h) H) (hS : va_S A s.heap H locs) (hl : lv_has ls 4 (lx_l ad b i)) (kk : ∀ (h2 : am_H) (H2 : Heap) (locs2 : List Loc), Rl h2 → va_P D vwCl (am_ws ad cA h2) H2 → va_S A s.heap H2 locs2 → W p l e room_1 s m #[Value.ref b] below meth c H2 locs2 99 2130 Q (F0 m 1144 ls [])) : W p l e room_1 s m #[Value.ref b] below meth c H locs 99 2130 Q (F0 m 490 ls []) := by
  have C0 := C
  obtain ⟨hx, hb, hml, hown, hts, hK, hD, hro, hX, hbl, hbA, hL⟩ := C0
  obtain ⟨v, h1, h2, e1, e2, r2⟩ := r_triple (xs (i + 1)) (xs (i + 2)) (xs (i + 3)) (xs (i + 4)) (xs (i + 5)) h hR
  obtain ⟨x, rfl⟩ := rk0 e1
  refine lv_aload_n hx hb dL_law_490 rfl (lv_at hl 2 rfl) ?_
  refine lw_arg C hS hl hi (j := 1) (by omega) (n := 1) rfl dL_law_491 dL_law_492 dL_law_493 dL_law_494 dL_law_495 ?_
  refine lw_arg C hS hl hi (j := 2) (by omega) (n := 2) rfl dL_law_496 dL_law_497 dL_law_498 dL_law_499 dL_law_500 ?_
  refine lw_arg C hS hl hi (j := 3) (by omega) (n := 3) rfl dL_law_501 dL_law_502 dL_law_503 dL_law_504 dL_law_505 ?_
  refine lw_arg C hS hl hi (j := 4) (by omega) (n := 4) rfl dL_law_506 dL_law_507 dL_law_508 dL_law_509 dL_law_510 ?_
  refine lw_arg C hS hl hi (j := 5) (by omega) (n := 5) rfl dL_law_511 dL_law_512 dL_law_513 dL_law_514 dL_law_515 ?_
  have q8 : am_call (some 8) 5 fX8_triple [.int (xs (i + 5)), .int (xs (i + 4)), .int (xs (i + 3)), .int (xs (i + 2)), .int (xs (i + 1)), .ref 0] h = some (some (.int x), [], h1) := by rw [am_cV_5, if_pos ⟨rfl, by simp⟩, e1]; rfl
  refine am_crV (R := room_1) (cells := 99) (slots := 2130) (Q := Q) (n := 5) (ci := 8) hx hb hml hown hts hK hD hro (kX8_triple l D ad cA A am_lays_ok) ⟨wx_462, wx_55, wx_459, by decide +kernel⟩ wx_460 wx_461 rfl (by decide) rfl rfl ⟨Nat.le_of_ble_eq_true rfl, Nat.le_of_ble_eq_true rfl⟩ ⟨Nat.le_refl _, Nat.le_refl _⟩ 516 ls [.int (xs (i + 5)), .int (xs (i + 4)), .int (xs (i + 3)), .int (xs (i + 2)), .int (xs (i + 1)), .ref 0] h H locs (some (.int x), [], h1) (fun z => absurd z (by simp)) (fun _ => dL_law_516) q8 hl.1 hP hS (fun H1 locs1 hP1 hS1 => ?_)
  refine W.eq (g2 := F0 m 519 ls [.int x]) rfl ?_
  refine lv_aload_n hx hb dL_law_519 rfl (lv_at hl 1 rfl) ?_
  refine lw_arg C hS1 hl hi (j := 1) (by omega) (n := 1) rfl dL_law_520 dL_law_521 dL_law_522 dL_law_523 dL_law_524 ?_
  refine lw_arg C hS1 hl hi (j := 2) (by omega) (n := 2) rfl dL_law_525 dL_law_526 dL_law_527 dL_law_528 dL_law_529 ?_
  refine lw_arg C hS1 hl hi (j := 3) (by omega) (n := 3) rfl dL_law_530 dL_law_531 dL_law_532 dL_law_533 dL_law_534 ?_
  refine lw_arg C hS1 hl hi (j := 4) (by omega) (n := 4) rfl dL_law_535 dL_law_536 dL_law_537 dL_law_538 dL_law_539 ?_
  refine lw_arg C hS1 hl hi (j := 5) (by omega) (n := 5) rfl dL_law_540 dL_law_541 dL_law_542 dL_law_543 dL_law_544 ?_
  have q9 : am_call (some 9) 5 fX9_triple [.int (xs (i + 5)), .int (xs (i + 4)), .int (xs (i + 3)), .int (xs (i + 2)), .int (xs (i + 1)), .ref 77, .int x] h1 = some (some (.int x), [.int x], h2) := by rw [am_cV_5, if_pos ⟨rfl, by simp⟩, e2]; rfl
  refine am_crV (R := room_1) (cells := 99) (slots := 2130) (Q := Q) (n := 5) (ci := 9) hx hb hml hown hts hK hD hro (kX9_triple l D ad cA A am_lays_ok) ⟨wx_936, wx_64, wx_933, by decide +kernel⟩ wx_934 wx_935 rfl (by decide) rfl rfl ⟨Nat.le_of_ble_eq_true rfl, Nat.le_of_ble_eq_true rfl⟩ ⟨Nat.le_refl _, Nat.le_refl _⟩ 545 ls [.int (xs (i + 5)), .int (xs (i + 4)), .int (xs (i + 3)), .int (xs (i + 2)), .int (xs (i + 1)), .ref 77, .int x] h1 H1 locs1 (some (.int x), [.int x], h2) (fun z => absurd z (by simp)) (fun _ => dL_law_545) q9 hl.1 hP1 hS1 (fun H2 locs2 hP2 hS2 => ?_)
  refine W.eq (g2 := F0 m 548 ls [.int x, .int x]) rfl ?_
  exact lv_icmp_eq (tgt := 1144) hx hb dL_law_548 (by decide) (fun _ => kk h2 H2 locs2 r2 hP2 hS2) (fun hn => absurd rfl hn)
set_option maxHeartbeats 1000000 in
theorem lc_11 (C : lx p s m c b L xs D ad cA A) {h : am_H} {H : Heap} {locs : List Loc} {ls : Array Slot} {i : Nat} (hR : Rl h) (hi : i + 6 ≤ L) (hP : va_P D vwCl (am_ws ad cA h) H) (hS : va_S A s.heap H locs) (hl : lv_has ls 4 (lx_l ad b i)) (kk : ∀ (h2 : am_H) (H2 : Heap) (locs2 : List Loc), Rl h2 → va_P D vwCl (am_ws ad cA h2) H2 → va_S A s.heap H2 locs2 → W p l e room_1 s m #[Value.ref b] below meth c H2 locs2 99 2130 Q (F0 m 1144 ls [])) : W p l e room_1 s m #[Value.ref b] below meth c H locs 99 2130 Q (F0 m 553 ls []) := by
  have C0 := C
  obtain ⟨hx, hb, hml, hown, hts, hK, hD, hro, hX, hbl, hbA, hL⟩ := C0
  obtain ⟨v, h1, h2, e1, e2, r2⟩ := r_alike (xs (i + 1)) h hR
  obtain ⟨x, rfl⟩ := rk0 e1
  refine lv_aload_n hx hb dL_law_553 rfl (lv_at hl 2 rfl) ?_
  refine lw_arg C hS hl hi (j := 1) (by omega) (n := 1) rfl dL_law_554 dL_law_555 dL_law_556 dL_law_557 dL_law_558 ?_
  have q8 : am_call (some 8) 1 fX8_alike [.int (xs (i + 1)), .ref 0] h = some (some (.int x), [], h1) := by rw [am_cV_1, if_pos ⟨rfl, by simp⟩, e1]; rfl
  refine am_crV (R := room_1) (cells := 99) (slots := 2130) (Q := Q) (n := 1) (ci := 8) hx hb hml hown hts hK hD hro (kX8_alike l D ad cA A am_lays_ok) ⟨wx_486, wx_55, wx_483, by decide +kernel⟩ wx_484 wx_485 rfl (by decide) rfl rfl ⟨Nat.le_of_ble_eq_true rfl, Nat.le_of_ble_eq_true rfl⟩ ⟨Nat.le_refl _, Nat.le_refl _⟩ 559 ls [.int (xs (i + 1)), .ref 0] h H locs (some (.int x), [], h1) (fun z => absurd z (by simp)) (fun _ => dL_law_559) q8 hl.1 hP hS (fun H1 locs1 hP1 hS1 => ?_)
  refine W.eq (g2 := F0 m 562 ls [.int x]) rfl ?_
  refine lv_aload_n hx hb dL_law_562 rfl (lv_at hl 1 rfl) ?_
  refine lw_arg C hS1 hl hi (j := 1) (by omega) (n := 1) rfl dL_law_563 dL_law_564 dL_law_565 dL_law_566 dL_law_567 ?_
  have q9 : am_call (some 9) 1 fX9_alike [.int (xs (i + 1)), .ref 77, .int x] h1 = some (some (.int x), [.int x], h2) := by rw [am_cV_1, if_pos ⟨rfl, by simp⟩, e2]; rfl
  refine am_crV (R := room_1) (cells := 99) (slots := 2130) (Q := Q) (n := 1) (ci := 9) hx hb hml hown hts hK hD hro (kX9_alike l D ad cA A am_lays_ok) ⟨wx_957, wx_64, wx_954, by decide +kernel⟩ wx_955 wx_956 rfl (by decide) rfl rfl ⟨Nat.le_of_ble_eq_true rfl, Nat.le_of_ble_eq_true rfl⟩ ⟨Nat.le_refl _, Nat.le_refl _⟩ 568 ls [.int (xs (i + 1)), .ref 77, .int x] h1 H1 locs1 (some (.int x), [.int x], h2) (fun z => absurd z (by simp)) (fun _ => dL_law_568) q9 hl.1 hP1 hS1 (fun H2 locs2 hP2 hS2 => ?_)
  refine W.eq (g2 := F0 m 571 ls [.int x, .int x]) rfl ?_
  exact lv_icmp_eq (tgt := 1144) hx hb dL_law_571 (by decide) (fun _ => kk h2 H2 locs2 r2 hP2 hS2) (fun hn => absurd rfl hn)
set_option maxHeartbeats 1000000 in
theorem lc_12 (C : lx p s m c b L xs D ad cA A) {h : am_H} {H : Heap} {locs : List Loc} {ls : Array Slot} {i : Nat} (hR : Rl h) (hi : i + 6 ≤ L) (hP : va_P D vwCl (am_ws ad cA h) H) (hS : va_S A s.heap H locs) (hl : lv_has ls 4 (lx_l ad b i)) (kk : ∀ (h2 : am_H) (H2 : Heap) (locs2 : List Loc), Rl h2 → va_P D vwCl (am_ws ad cA h2) H2 → va_S A s.heap H2 locs2 → W p l e room_1 s m #[Value.ref b] below meth c H2 locs2 99 2130 Q (F0 m 1144 ls [])) : W p l e room_1 s m #[Value.ref b] below meth c H locs 99 2130 Q (F0 m 576 ls []) := by
  have C0 := C
  obtain ⟨hx, hb, hml, hown, hts, hK, hD, hro, hX, hbl, hbA, hL⟩ := C0
  obtain ⟨v, h1, h2, e1, e2, r2⟩ := r_votes (xs (i + 1)) (xs (i + 2)) (xs (i + 3)) h hR
  obtain ⟨x, rfl⟩ := rk0 e1
  refine lv_aload_n hx hb dL_law_576 rfl (lv_at hl 2 rfl) ?_
  refine lw_arg C hS hl hi (j := 1) (by omega) (n := 1) rfl dL_law_577 dL_law_578 dL_law_579 dL_law_580 dL_law_581 ?_
  refine lw_arg C hS hl hi (j := 2) (by omega) (n := 2) rfl dL_law_582 dL_law_583 dL_law_584 dL_law_585 dL_law_586 ?_
  refine lw_arg C hS hl hi (j := 3) (by omega) (n := 3) rfl dL_law_587 dL_law_588 dL_law_589 dL_law_590 dL_law_591 ?_
  have q8 : am_call (some 8) 3 fX8_votes [.int (xs (i + 3)), .int (xs (i + 2)), .int (xs (i + 1)), .ref 0] h = some (some (.int x), [], h1) := by rw [am_cV_3, if_pos ⟨rfl, by simp⟩, e1]; rfl
  refine am_crV (R := room_1) (cells := 99) (slots := 2130) (Q := Q) (n := 3) (ci := 8) hx hb hml hown hts hK hD hro (kX8_votes l D ad cA A am_lays_ok) ⟨wx_517, wx_55, wx_514, by decide +kernel⟩ wx_515 wx_516 rfl (by decide) rfl rfl ⟨Nat.le_of_ble_eq_true rfl, Nat.le_of_ble_eq_true rfl⟩ ⟨Nat.le_refl _, Nat.le_refl _⟩ 592 ls [.int (xs (i + 3)), .int (xs (i + 2)), .int (xs (i + 1)), .ref 0] h H locs (some (.int x), [], h1) (fun z => absurd z (by simp)) (fun _ => dL_law_592) q8 hl.1 hP hS (fun H1 locs1 hP1 hS1 => ?_)
  refine W.eq (g2 := F0 m 595 ls [.int x]) rfl ?_
  refine lv_aload_n hx hb dL_law_595 rfl (lv_at hl 1 rfl) ?_
  refine lw_arg C hS1 hl hi (j := 1) (by omega) (n := 1) rfl dL_law_596 dL_law_597 dL_law_598 dL_law_599 dL_law_600 ?_
  refine lw_arg C hS1 hl hi (j := 2) (by omega) (n := 2) rfl dL_law_601 dL_law_602 dL_law_603 dL_law_604 dL_law_605 ?_
  refine lw_arg C hS1 hl hi (j := 3) (by omega) (n := 3) rfl dL_law_606 dL_law_607 dL_law_608 dL_law_609 dL_law_610 ?_
  have q9 : am_call (some 9) 3 fX9_votes [.int (xs (i + 3)), .int (xs (i + 2)), .int (xs (i + 1)), .ref 77, .int x] h1 = some (some (.int x), [.int x], h2) := by rw [am_cV_3, if_pos ⟨rfl, by simp⟩, e2]; rfl
  refine am_crV (R := room_1) (cells := 99) (slots := 2130) (Q := Q) (n := 3) (ci := 9) hx hb hml hown hts hK hD hro (kX9_votes l D ad cA A am_lays_ok) ⟨wx_980, wx_64, wx_977, by decide +kernel⟩ wx_978 wx_979 rfl (by decide) rfl rfl ⟨Nat.le_of_ble_eq_true rfl, Nat.le_of_ble_eq_true rfl⟩ ⟨Nat.le_refl _, Nat.le_refl _⟩ 611 ls [.int (xs (i + 3)), .int (xs (i + 2)), .int (xs (i + 1)), .ref 77, .int x] h1 H1 locs1 (some (.int x), [.int x], h2) (fun z => absurd z (by simp)) (fun _ => dL_law_611) q9 hl.1 hP1 hS1 (fun H2 locs2 hP2 hS2 => ?_)
  refine W.eq (g2 := F0 m 614 ls [.int x, .int x]) rfl ?_
  exact lv_icmp_eq (tgt := 1144) hx hb dL_law_614 (by decide) (fun _ => kk h2 H2 locs2 r2 hP2 hS2) (fun hn => absurd rfl hn)
set_option maxHeartbeats 1000000 in
theorem lc_13 (C : lx p s m c b L xs D ad cA A) {h : am_H} {H : Heap} {locs : List Loc} {ls : Array Slot} {i : Nat} (hR : Rl h) (hi : i + 6 ≤ L) (hP : va_P D vwCl (am_ws ad cA h) H) (hS : va_S A s.heap H locs) (hl : lv_has ls 4 (lx_l ad b i)) (kk : ∀ (h2 : am_H) (H2 : Heap) (locs2 : List Loc), Rl h2 → va_P D vwCl (am_ws ad cA h2) H2 → va_S A s.heap H2 locs2 → W p l e room_1 s m #[Value.ref b] below meth c H2 locs2 99 2130 Q (F0 m 1144 ls [])) : W p l e room_1 s m #[Value.ref b] below meth c H locs 99 2130 Q (F0 m 619 ls []) := by
  have C0 := C
  obtain ⟨hx, hb, hml, hown, hts, hK, hD, hro, hX, hbl, hbA, hL⟩ := C0
  by_cases c0 : xs (i + 3) = 0
  · obtain ⟨v, h1, h2, e1, e2, r2⟩ := r_match0 (xs (i + 1)) (xs (i + 2)) h hR
    obtain ⟨x, rfl⟩ := rk0 e1
    refine lv_aload_n hx hb dL_law_619 rfl (lv_at hl 2 rfl) ?_
    refine lw_arg C hS hl hi (j := 1) (by omega) (n := 1) rfl dL_law_620 dL_law_621 dL_law_622 dL_law_623 dL_law_624 ?_
    refine lw_arg C hS hl hi (j := 2) (by omega) (n := 2) rfl dL_law_625 dL_law_626 dL_law_627 dL_law_628 dL_law_629 ?_
    refine lw_arg C hS hl hi (j := 3) (by omega) (n := 3) rfl dL_law_630 dL_law_631 dL_law_632 dL_law_633 dL_law_634 ?_
    refine lv_if_eq (tgt := 642) hx hb dL_law_635 (by decide) (fun _ => ?_) (fun hn => absurd c0 hn)
    refine lv_iconst (v := 0) hx hb dL_law_642 (by decide) ?_
    have q8 : am_call (some 8) 3 fX8_match [.int 0, .int (xs (i + 2)), .int (xs (i + 1)), .ref 0] h = some (some (.int x), [], h1) := by rw [am_cV_3, if_pos ⟨rfl, by simp⟩, e1]; rfl
    refine am_crV (R := room_1) (cells := 99) (slots := 2130) (Q := Q) (n := 3) (ci := 8) hx hb hml hown hts hK hD hro (kX8_match l D ad cA A am_lays_ok) ⟨wx_525, wx_55, wx_522, by decide +kernel⟩ wx_523 wx_524 rfl (by decide) rfl rfl ⟨Nat.le_of_ble_eq_true rfl, Nat.le_of_ble_eq_true rfl⟩ ⟨Nat.le_refl _, Nat.le_refl _⟩ 643 ls [.int 0, .int (xs (i + 2)), .int (xs (i + 1)), .ref 0] h H locs (some (.int x), [], h1) (fun z => absurd z (by simp)) (fun _ => dL_law_643) q8 hl.1 hP hS (fun H1 locs1 hP1 hS1 => ?_)
    refine W.eq (g2 := F0 m 646 ls [.int x]) rfl ?_
    refine lv_aload_n hx hb dL_law_646 rfl (lv_at hl 1 rfl) ?_
    refine lw_arg C hS1 hl hi (j := 1) (by omega) (n := 1) rfl dL_law_647 dL_law_648 dL_law_649 dL_law_650 dL_law_651 ?_
    refine lw_arg C hS1 hl hi (j := 2) (by omega) (n := 2) rfl dL_law_652 dL_law_653 dL_law_654 dL_law_655 dL_law_656 ?_
    refine lw_arg C hS1 hl hi (j := 3) (by omega) (n := 3) rfl dL_law_657 dL_law_658 dL_law_659 dL_law_660 dL_law_661 ?_
    refine lv_if_eq (tgt := 669) hx hb dL_law_662 (by decide) (fun _ => ?_) (fun hn => absurd c0 hn)
    refine lv_iconst (v := 0) hx hb dL_law_669 (by decide) ?_
    have q9 : am_call (some 9) 3 fX9_match [.int 0, .int (xs (i + 2)), .int (xs (i + 1)), .ref 77, .int x] h1 = some (some (.int x), [.int x], h2) := by rw [am_cV_3, if_pos ⟨rfl, by simp⟩, e2]; rfl
    refine am_crV (R := room_1) (cells := 99) (slots := 2130) (Q := Q) (n := 3) (ci := 9) hx hb hml hown hts hK hD hro (kX9_match l D ad cA A am_lays_ok) ⟨wx_984, wx_64, wx_981, by decide +kernel⟩ wx_982 wx_983 rfl (by decide) rfl rfl ⟨Nat.le_of_ble_eq_true rfl, Nat.le_of_ble_eq_true rfl⟩ ⟨Nat.le_refl _, Nat.le_refl _⟩ 670 ls [.int 0, .int (xs (i + 2)), .int (xs (i + 1)), .ref 77, .int x] h1 H1 locs1 (some (.int x), [.int x], h2) (fun z => absurd z (by simp)) (fun _ => dL_law_670) q9 hl.1 hP1 hS1 (fun H2 locs2 hP2 hS2 => ?_)
    refine W.eq (g2 := F0 m 673 ls [.int x, .int x]) rfl ?_
    exact lv_icmp_eq (tgt := 1144) hx hb dL_law_673 (by decide) (fun _ => kk h2 H2 locs2 r2 hP2 hS2) (fun hn => absurd rfl hn)
  · obtain ⟨v, h1, h2, e1, e2, r2⟩ := r_match1 (xs (i + 1)) (xs (i + 2)) h hR
    obtain ⟨x, rfl⟩ := rk0 e1
    refine lv_aload_n hx hb dL_law_619 rfl (lv_at hl 2 rfl) ?_
    refine lw_arg C hS hl hi (j := 1) (by omega) (n := 1) rfl dL_law_620 dL_law_621 dL_law_622 dL_law_623 dL_law_624 ?_
    refine lw_arg C hS hl hi (j := 2) (by omega) (n := 2) rfl dL_law_625 dL_law_626 dL_law_627 dL_law_628 dL_law_629 ?_
    refine lw_arg C hS hl hi (j := 3) (by omega) (n := 3) rfl dL_law_630 dL_law_631 dL_law_632 dL_law_633 dL_law_634 ?_
    refine lv_if_eq (tgt := 642) hx hb dL_law_635 (by decide) (fun hn => absurd hn c0) (fun _ => ?_)
    refine lv_iconst (v := 1) hx hb dL_law_638 (by decide) ?_
    refine lv_goto (tgt := 643) hx hb dL_law_639 (by decide) ?_
    have q8 : am_call (some 8) 3 fX8_match [.int 1, .int (xs (i + 2)), .int (xs (i + 1)), .ref 0] h = some (some (.int x), [], h1) := by rw [am_cV_3, if_pos ⟨rfl, by simp⟩, e1]; rfl
    refine am_crV (R := room_1) (cells := 99) (slots := 2130) (Q := Q) (n := 3) (ci := 8) hx hb hml hown hts hK hD hro (kX8_match l D ad cA A am_lays_ok) ⟨wx_525, wx_55, wx_522, by decide +kernel⟩ wx_523 wx_524 rfl (by decide) rfl rfl ⟨Nat.le_of_ble_eq_true rfl, Nat.le_of_ble_eq_true rfl⟩ ⟨Nat.le_refl _, Nat.le_refl _⟩ 643 ls [.int 1, .int (xs (i + 2)), .int (xs (i + 1)), .ref 0] h H locs (some (.int x), [], h1) (fun z => absurd z (by simp)) (fun _ => dL_law_643) q8 hl.1 hP hS (fun H1 locs1 hP1 hS1 => ?_)
    refine W.eq (g2 := F0 m 646 ls [.int x]) rfl ?_
    refine lv_aload_n hx hb dL_law_646 rfl (lv_at hl 1 rfl) ?_
    refine lw_arg C hS1 hl hi (j := 1) (by omega) (n := 1) rfl dL_law_647 dL_law_648 dL_law_649 dL_law_650 dL_law_651 ?_
    refine lw_arg C hS1 hl hi (j := 2) (by omega) (n := 2) rfl dL_law_652 dL_law_653 dL_law_654 dL_law_655 dL_law_656 ?_
    refine lw_arg C hS1 hl hi (j := 3) (by omega) (n := 3) rfl dL_law_657 dL_law_658 dL_law_659 dL_law_660 dL_law_661 ?_
    refine lv_if_eq (tgt := 669) hx hb dL_law_662 (by decide) (fun hn => absurd hn c0) (fun _ => ?_)
    refine lv_iconst (v := 1) hx hb dL_law_665 (by decide) ?_
    refine lv_goto (tgt := 670) hx hb dL_law_666 (by decide) ?_
    have q9 : am_call (some 9) 3 fX9_match [.int 1, .int (xs (i + 2)), .int (xs (i + 1)), .ref 77, .int x] h1 = some (some (.int x), [.int x], h2) := by rw [am_cV_3, if_pos ⟨rfl, by simp⟩, e2]; rfl
    refine am_crV (R := room_1) (cells := 99) (slots := 2130) (Q := Q) (n := 3) (ci := 9) hx hb hml hown hts hK hD hro (kX9_match l D ad cA A am_lays_ok) ⟨wx_984, wx_64, wx_981, by decide +kernel⟩ wx_982 wx_983 rfl (by decide) rfl rfl ⟨Nat.le_of_ble_eq_true rfl, Nat.le_of_ble_eq_true rfl⟩ ⟨Nat.le_refl _, Nat.le_refl _⟩ 670 ls [.int 1, .int (xs (i + 2)), .int (xs (i + 1)), .ref 77, .int x] h1 H1 locs1 (some (.int x), [.int x], h2) (fun z => absurd z (by simp)) (fun _ => dL_law_670) q9 hl.1 hP1 hS1 (fun H2 locs2 hP2 hS2 => ?_)
    refine W.eq (g2 := F0 m 673 ls [.int x, .int x]) rfl ?_
    exact lv_icmp_eq (tgt := 1144) hx hb dL_law_673 (by decide) (fun _ => kk h2 H2 locs2 r2 hP2 hS2) (fun hn => absurd rfl hn)
set_option maxHeartbeats 1000000 in
theorem lc_14 (C : lx p s m c b L xs D ad cA A) {h : am_H} {H : Heap} {locs : List Loc} {ls : Array Slot} {i : Nat} (hR : Rl h) (hi : i + 6 ≤ L) (hP : va_P D vwCl (am_ws ad cA h) H) (hS : va_S A s.heap H locs) (hl : lv_has ls 4 (lx_l ad b i)) (kk : ∀ (h2 : am_H) (H2 : Heap) (locs2 : List Loc), Rl h2 → va_P D vwCl (am_ws ad cA h2) H2 → va_S A s.heap H2 locs2 → W p l e room_1 s m #[Value.ref b] below meth c H2 locs2 99 2130 Q (F0 m 1144 ls [])) : W p l e room_1 s m #[Value.ref b] below meth c H locs 99 2130 Q (F0 m 678 ls []) := by
  have C0 := C
  obtain ⟨hx, hb, hml, hown, hts, hK, hD, hro, hX, hbl, hbA, hL⟩ := C0
  obtain ⟨v, h1, h2, e1, e2, r2⟩ := r_fit (xs (i + 1)) (xs (i + 2)) (xs (i + 3)) h hR
  obtain ⟨x, rfl⟩ := rk2 e1
  refine lv_aload_n hx hb dL_law_678 rfl (lv_at hl 2 rfl) ?_
  refine lw_arg C hS hl hi (j := 1) (by omega) (n := 1) rfl dL_law_679 dL_law_680 dL_law_681 dL_law_682 dL_law_683 ?_
  refine lw_arg C hS hl hi (j := 2) (by omega) (n := 2) rfl dL_law_684 dL_law_685 dL_law_686 dL_law_687 dL_law_688 ?_
  refine lw_arg C hS hl hi (j := 3) (by omega) (n := 3) rfl dL_law_689 dL_law_690 dL_law_691 dL_law_692 dL_law_693 ?_
  have q8 : am_call (some 8) 3 fX8_fit [.int (xs (i + 3)), .int (xs (i + 2)), .int (xs (i + 1)), .ref 0] h = some (some (.long x), [], h1) := by rw [am_cV_3, if_pos ⟨rfl, by simp⟩, e1]; rfl
  refine am_crV (R := room_1) (cells := 99) (slots := 2130) (Q := Q) (n := 3) (ci := 8) hx hb hml hown hts hK hD hro (kX8_fit l D ad cA A am_lays_ok) ⟨wx_587, wx_55, wx_584, by decide +kernel⟩ wx_585 wx_586 rfl (by decide) rfl rfl ⟨Nat.le_of_ble_eq_true rfl, Nat.le_of_ble_eq_true rfl⟩ ⟨Nat.le_refl _, Nat.le_refl _⟩ 694 ls [.int (xs (i + 3)), .int (xs (i + 2)), .int (xs (i + 1)), .ref 0] h H locs (some (.long x), [], h1) (fun z => absurd z (by simp)) (fun _ => dL_law_694) q8 hl.1 hP hS (fun H1 locs1 hP1 hS1 => ?_)
  refine W.eq (g2 := F0 m 697 ls [.long x]) rfl ?_
  refine lv_aload_n hx hb dL_law_697 rfl (lv_at hl 1 rfl) ?_
  refine lw_arg C hS1 hl hi (j := 1) (by omega) (n := 1) rfl dL_law_698 dL_law_699 dL_law_700 dL_law_701 dL_law_702 ?_
  refine lw_arg C hS1 hl hi (j := 2) (by omega) (n := 2) rfl dL_law_703 dL_law_704 dL_law_705 dL_law_706 dL_law_707 ?_
  refine lw_arg C hS1 hl hi (j := 3) (by omega) (n := 3) rfl dL_law_708 dL_law_709 dL_law_710 dL_law_711 dL_law_712 ?_
  have q9 : am_call (some 9) 3 fX9_fit [.int (xs (i + 3)), .int (xs (i + 2)), .int (xs (i + 1)), .ref 77, .long x] h1 = some (some (.long x), [.long x], h2) := by rw [am_cV_3, if_pos ⟨rfl, by simp⟩, e2]; rfl
  refine am_crV (R := room_1) (cells := 99) (slots := 2130) (Q := Q) (n := 3) (ci := 9) hx hb hml hown hts hK hD hro (kX9_fit l D ad cA A am_lays_ok) ⟨wx_1027, wx_64, wx_1024, by decide +kernel⟩ wx_1025 wx_1026 rfl (by decide) rfl rfl ⟨Nat.le_of_ble_eq_true rfl, Nat.le_of_ble_eq_true rfl⟩ ⟨Nat.le_refl _, Nat.le_refl _⟩ 713 ls [.int (xs (i + 3)), .int (xs (i + 2)), .int (xs (i + 1)), .ref 77, .long x] h1 H1 locs1 (some (.long x), [.long x], h2) (fun z => absurd z (by simp)) (fun _ => dL_law_713) q9 hl.1 hP1 hS1 (fun H2 locs2 hP2 hS2 => ?_)
  refine W.eq (g2 := F0 m 716 ls [.long x, .long x]) rfl ?_
  refine W.lcmp hx hb dL_law_716 ?_
  exact lv_if_eq (tgt := 1144) hx hb dL_law_717 (by decide) (fun _ => kk h2 H2 locs2 r2 hP2 hS2) (fun hn => by rw [am_lc_eq0] at hn; exact absurd rfl hn)
set_option maxHeartbeats 1000000 in
theorem lc_15 (C : lx p s m c b L xs D ad cA A) {h : am_H} {H : Heap} {locs : List Loc} {ls : Array Slot} {i : Nat} (hR : Rl h) (hi : i + 6 ≤ L) (hP : va_P D vwCl (am_ws ad cA h) H) (hS : va_S A s.heap H locs) (hl : lv_has ls 4 (lx_l ad b i)) (kk : ∀ (h2 : am_H) (H2 : Heap) (locs2 : List Loc), Rl h2 → va_P D vwCl (am_ws ad cA h2) H2 → va_S A s.heap H2 locs2 → W p l e room_1 s m #[Value.ref b] below meth c H2 locs2 99 2130 Q (F0 m 1144 ls [])) : W p l e room_1 s m #[Value.ref b] below meth c H locs 99 2130 Q (F0 m 722 ls []) := by
  have C0 := C
  obtain ⟨hx, hb, hml, hown, hts, hK, hD, hro, hX, hbl, hbA, hL⟩ := C0
  obtain ⟨v, h1, h2, e1, e2, r2⟩ := r_laid (xs (i + 1)) (xs (i + 2)) (xs (i + 3)) h hR
  obtain ⟨x, rfl⟩ := rk2 e1
  refine lv_aload_n hx hb dL_law_722 rfl (lv_at hl 2 rfl) ?_
  refine lw_arg C hS hl hi (j := 1) (by omega) (n := 1) rfl dL_law_723 dL_law_724 dL_law_725 dL_law_726 dL_law_727 ?_
  refine lw_arg C hS hl hi (j := 2) (by omega) (n := 2) rfl dL_law_728 dL_law_729 dL_law_730 dL_law_731 dL_law_732 ?_
  refine lw_arg C hS hl hi (j := 3) (by omega) (n := 3) rfl dL_law_733 dL_law_734 dL_law_735 dL_law_736 dL_law_737 ?_
  have q8 : am_call (some 8) 3 fX8_laid [.int (xs (i + 3)), .int (xs (i + 2)), .int (xs (i + 1)), .ref 0] h = some (some (.long x), [], h1) := by rw [am_cV_3, if_pos ⟨rfl, by simp⟩, e1]; rfl
  refine am_crV (R := room_1) (cells := 99) (slots := 2130) (Q := Q) (n := 3) (ci := 8) hx hb hml hown hts hK hD hro (kX8_laid l D ad cA A am_lays_ok) ⟨wx_595, wx_55, wx_592, by decide +kernel⟩ wx_593 wx_594 rfl (by decide) rfl rfl ⟨Nat.le_of_ble_eq_true rfl, Nat.le_of_ble_eq_true rfl⟩ ⟨Nat.le_refl _, Nat.le_refl _⟩ 738 ls [.int (xs (i + 3)), .int (xs (i + 2)), .int (xs (i + 1)), .ref 0] h H locs (some (.long x), [], h1) (fun z => absurd z (by simp)) (fun _ => dL_law_738) q8 hl.1 hP hS (fun H1 locs1 hP1 hS1 => ?_)
  refine W.eq (g2 := F0 m 741 ls [.long x]) rfl ?_
  refine lv_aload_n hx hb dL_law_741 rfl (lv_at hl 1 rfl) ?_
  refine lw_arg C hS1 hl hi (j := 1) (by omega) (n := 1) rfl dL_law_742 dL_law_743 dL_law_744 dL_law_745 dL_law_746 ?_
  refine lw_arg C hS1 hl hi (j := 2) (by omega) (n := 2) rfl dL_law_747 dL_law_748 dL_law_749 dL_law_750 dL_law_751 ?_
  refine lw_arg C hS1 hl hi (j := 3) (by omega) (n := 3) rfl dL_law_752 dL_law_753 dL_law_754 dL_law_755 dL_law_756 ?_
  have q9 : am_call (some 9) 3 fX9_laid [.int (xs (i + 3)), .int (xs (i + 2)), .int (xs (i + 1)), .ref 77, .long x] h1 = some (some (.long x), [.long x], h2) := by rw [am_cV_3, if_pos ⟨rfl, by simp⟩, e2]; rfl
  refine am_crV (R := room_1) (cells := 99) (slots := 2130) (Q := Q) (n := 3) (ci := 9) hx hb hml hown hts hK hD hro (kX9_laid l D ad cA A am_lays_ok) ⟨wx_1035, wx_64, wx_1032, by decide +kernel⟩ wx_1033 wx_1034 rfl (by decide) rfl rfl ⟨Nat.le_of_ble_eq_true rfl, Nat.le_of_ble_eq_true rfl⟩ ⟨Nat.le_refl _, Nat.le_refl _⟩ 757 ls [.int (xs (i + 3)), .int (xs (i + 2)), .int (xs (i + 1)), .ref 77, .long x] h1 H1 locs1 (some (.long x), [.long x], h2) (fun z => absurd z (by simp)) (fun _ => dL_law_757) q9 hl.1 hP1 hS1 (fun H2 locs2 hP2 hS2 => ?_)
  refine W.eq (g2 := F0 m 760 ls [.long x, .long x]) rfl ?_
  refine W.lcmp hx hb dL_law_760 ?_
  exact lv_if_eq (tgt := 1144) hx hb dL_law_761 (by decide) (fun _ => kk h2 H2 locs2 r2 hP2 hS2) (fun hn => by rw [am_lc_eq0] at hn; exact absurd rfl hn)
set_option maxHeartbeats 1000000 in
theorem lc_16 (C : lx p s m c b L xs D ad cA A) {h : am_H} {H : Heap} {locs : List Loc} {ls : Array Slot} {i : Nat} (hR : Rl h) (hi : i + 6 ≤ L) (hP : va_P D vwCl (am_ws ad cA h) H) (hS : va_S A s.heap H locs) (hl : lv_has ls 4 (lx_l ad b i)) (kk : ∀ (h2 : am_H) (H2 : Heap) (locs2 : List Loc), Rl h2 → va_P D vwCl (am_ws ad cA h2) H2 → va_S A s.heap H2 locs2 → W p l e room_1 s m #[Value.ref b] below meth c H2 locs2 99 2130 Q (F0 m 1144 ls [])) : W p l e room_1 s m #[Value.ref b] below meth c H locs 99 2130 Q (F0 m 766 ls []) := by
  have C0 := C
  obtain ⟨hx, hb, hml, hown, hts, hK, hD, hro, hX, hbl, hbA, hL⟩ := C0
  obtain ⟨v, h1, h2, e1, e2, r2⟩ := r_off (xs (i + 1)) (xs (i + 2)) h hR
  obtain ⟨x, rfl⟩ := rk2 e1
  refine lv_aload_n hx hb dL_law_766 rfl (lv_at hl 2 rfl) ?_
  refine lw_arg C hS hl hi (j := 1) (by omega) (n := 1) rfl dL_law_767 dL_law_768 dL_law_769 dL_law_770 dL_law_771 ?_
  refine lw_arg C hS hl hi (j := 2) (by omega) (n := 2) rfl dL_law_772 dL_law_773 dL_law_774 dL_law_775 dL_law_776 ?_
  have q8 : am_call (some 8) 2 fX8_off [.int (xs (i + 2)), .int (xs (i + 1)), .ref 0] h = some (some (.long x), [], h1) := by rw [am_cV_2, if_pos ⟨rfl, by simp⟩, e1]; rfl
  refine am_crV (R := room_1) (cells := 99) (slots := 2130) (Q := Q) (n := 2) (ci := 8) hx hb hml hown hts hK hD hro (kX8_off l D ad cA A am_lays_ok) ⟨wx_599, wx_55, wx_596, by decide +kernel⟩ wx_597 wx_598 rfl (by decide) rfl rfl ⟨Nat.le_of_ble_eq_true rfl, Nat.le_of_ble_eq_true rfl⟩ ⟨Nat.le_refl _, Nat.le_refl _⟩ 777 ls [.int (xs (i + 2)), .int (xs (i + 1)), .ref 0] h H locs (some (.long x), [], h1) (fun z => absurd z (by simp)) (fun _ => dL_law_777) q8 hl.1 hP hS (fun H1 locs1 hP1 hS1 => ?_)
  refine W.eq (g2 := F0 m 780 ls [.long x]) rfl ?_
  refine lv_aload_n hx hb dL_law_780 rfl (lv_at hl 1 rfl) ?_
  refine lw_arg C hS1 hl hi (j := 1) (by omega) (n := 1) rfl dL_law_781 dL_law_782 dL_law_783 dL_law_784 dL_law_785 ?_
  refine lw_arg C hS1 hl hi (j := 2) (by omega) (n := 2) rfl dL_law_786 dL_law_787 dL_law_788 dL_law_789 dL_law_790 ?_
  have q9 : am_call (some 9) 2 fX9_off [.int (xs (i + 2)), .int (xs (i + 1)), .ref 77, .long x] h1 = some (some (.long x), [.long x], h2) := by rw [am_cV_2, if_pos ⟨rfl, by simp⟩, e2]; rfl
  refine am_crV (R := room_1) (cells := 99) (slots := 2130) (Q := Q) (n := 2) (ci := 9) hx hb hml hown hts hK hD hro (kX9_off l D ad cA A am_lays_ok) ⟨wx_1039, wx_64, wx_1036, by decide +kernel⟩ wx_1037 wx_1038 rfl (by decide) rfl rfl ⟨Nat.le_of_ble_eq_true rfl, Nat.le_of_ble_eq_true rfl⟩ ⟨Nat.le_refl _, Nat.le_refl _⟩ 791 ls [.int (xs (i + 2)), .int (xs (i + 1)), .ref 77, .long x] h1 H1 locs1 (some (.long x), [.long x], h2) (fun z => absurd z (by simp)) (fun _ => dL_law_791) q9 hl.1 hP1 hS1 (fun H2 locs2 hP2 hS2 => ?_)
  refine W.eq (g2 := F0 m 794 ls [.long x, .long x]) rfl ?_
  refine W.lcmp hx hb dL_law_794 ?_
  exact lv_if_eq (tgt := 1144) hx hb dL_law_795 (by decide) (fun _ => kk h2 H2 locs2 r2 hP2 hS2) (fun hn => by rw [am_lc_eq0] at hn; exact absurd rfl hn)
set_option maxHeartbeats 1000000 in
theorem lc_17 (C : lx p s m c b L xs D ad cA A) {h : am_H} {H : Heap} {locs : List Loc} {ls : Array Slot} {i : Nat} (hR : Rl h) (hi : i + 6 ≤ L) (hP : va_P D vwCl (am_ws ad cA h) H) (hS : va_S A s.heap H locs) (hl : lv_has ls 4 (lx_l ad b i)) (kk : ∀ (h2 : am_H) (H2 : Heap) (locs2 : List Loc), Rl h2 → va_P D vwCl (am_ws ad cA h2) H2 → va_S A s.heap H2 locs2 → W p l e room_1 s m #[Value.ref b] below meth c H2 locs2 99 2130 Q (F0 m 1144 ls [])) : W p l e room_1 s m #[Value.ref b] below meth c H locs 99 2130 Q (F0 m 800 ls []) := by
  have C0 := C
  obtain ⟨hx, hb, hml, hown, hts, hK, hD, hro, hX, hbl, hbA, hL⟩ := C0
  obtain ⟨v, h1, h2, e1, e2, r2⟩ := r_wrong (xs (i + 1)) (xs (i + 2)) h hR
  obtain ⟨x, rfl⟩ := rk0 e1
  refine lv_aload_n hx hb dL_law_800 rfl (lv_at hl 2 rfl) ?_
  refine lw_arg C hS hl hi (j := 1) (by omega) (n := 1) rfl dL_law_801 dL_law_802 dL_law_803 dL_law_804 dL_law_805 ?_
  refine lw_arg C hS hl hi (j := 2) (by omega) (n := 2) rfl dL_law_806 dL_law_807 dL_law_808 dL_law_809 dL_law_810 ?_
  have q8 : am_call (some 8) 2 fX8_wrong [.int (xs (i + 2)), .int (xs (i + 1)), .ref 0] h = some (some (.int x), [], h1) := by rw [am_cV_2, if_pos ⟨rfl, by simp⟩, e1]; rfl
  refine am_crV (R := room_1) (cells := 99) (slots := 2130) (Q := Q) (n := 2) (ci := 8) hx hb hml hown hts hK hD hro (kX8_wrong l D ad cA A am_lays_ok) ⟨wx_603, wx_55, wx_600, by decide +kernel⟩ wx_601 wx_602 rfl (by decide) rfl rfl ⟨Nat.le_of_ble_eq_true rfl, Nat.le_of_ble_eq_true rfl⟩ ⟨Nat.le_refl _, Nat.le_refl _⟩ 811 ls [.int (xs (i + 2)), .int (xs (i + 1)), .ref 0] h H locs (some (.int x), [], h1) (fun z => absurd z (by simp)) (fun _ => dL_law_811) q8 hl.1 hP hS (fun H1 locs1 hP1 hS1 => ?_)
  refine W.eq (g2 := F0 m 814 ls [.int x]) rfl ?_
  refine lv_aload_n hx hb dL_law_814 rfl (lv_at hl 1 rfl) ?_
  refine lw_arg C hS1 hl hi (j := 1) (by omega) (n := 1) rfl dL_law_815 dL_law_816 dL_law_817 dL_law_818 dL_law_819 ?_
  refine lw_arg C hS1 hl hi (j := 2) (by omega) (n := 2) rfl dL_law_820 dL_law_821 dL_law_822 dL_law_823 dL_law_824 ?_
  have q9 : am_call (some 9) 2 fX9_wrong [.int (xs (i + 2)), .int (xs (i + 1)), .ref 77, .int x] h1 = some (some (.int x), [.int x], h2) := by rw [am_cV_2, if_pos ⟨rfl, by simp⟩, e2]; rfl
  refine am_crV (R := room_1) (cells := 99) (slots := 2130) (Q := Q) (n := 2) (ci := 9) hx hb hml hown hts hK hD hro (kX9_wrong l D ad cA A am_lays_ok) ⟨wx_1043, wx_64, wx_1040, by decide +kernel⟩ wx_1041 wx_1042 rfl (by decide) rfl rfl ⟨Nat.le_of_ble_eq_true rfl, Nat.le_of_ble_eq_true rfl⟩ ⟨Nat.le_refl _, Nat.le_refl _⟩ 825 ls [.int (xs (i + 2)), .int (xs (i + 1)), .ref 77, .int x] h1 H1 locs1 (some (.int x), [.int x], h2) (fun z => absurd z (by simp)) (fun _ => dL_law_825) q9 hl.1 hP1 hS1 (fun H2 locs2 hP2 hS2 => ?_)
  refine W.eq (g2 := F0 m 828 ls [.int x, .int x]) rfl ?_
  exact lv_icmp_eq (tgt := 1144) hx hb dL_law_828 (by decide) (fun _ => kk h2 H2 locs2 r2 hP2 hS2) (fun hn => absurd rfl hn)
set_option maxHeartbeats 1000000 in
theorem lc_18 (C : lx p s m c b L xs D ad cA A) {h : am_H} {H : Heap} {locs : List Loc} {ls : Array Slot} {i : Nat} (hR : Rl h) (hi : i + 6 ≤ L) (hP : va_P D vwCl (am_ws ad cA h) H) (hS : va_S A s.heap H locs) (hl : lv_has ls 4 (lx_l ad b i)) (kk : ∀ (h2 : am_H) (H2 : Heap) (locs2 : List Loc), Rl h2 → va_P D vwCl (am_ws ad cA h2) H2 → va_S A s.heap H2 locs2 → W p l e room_1 s m #[Value.ref b] below meth c H2 locs2 99 2130 Q (F0 m 1144 ls [])) : W p l e room_1 s m #[Value.ref b] below meth c H locs 99 2130 Q (F0 m 833 ls []) := by
  have C0 := C
  obtain ⟨hx, hb, hml, hown, hts, hK, hD, hro, hX, hbl, hbA, hL⟩ := C0
  obtain ⟨v, h1, h2, e1, e2, r2⟩ := r_both h hR
  obtain ⟨x, rfl⟩ := rk0 e1
  refine lv_aload_n hx hb dL_law_833 rfl (lv_at hl 2 rfl) ?_
  have q8 : am_call (some 8) 0 fX8_both [.ref 0] h = some (some (.int x), [], h1) := by rw [am_cV_0, if_pos ⟨rfl, by simp⟩, e1]; rfl
  refine am_crV (R := room_1) (cells := 99) (slots := 2130) (Q := Q) (n := 0) (ci := 8) hx hb hml hown hts hK hD hro (kX8_both l D ad cA A am_lays_ok) ⟨wx_619, wx_55, wx_616, by decide +kernel⟩ wx_617 wx_618 rfl (by decide) rfl rfl ⟨Nat.le_of_ble_eq_true rfl, Nat.le_of_ble_eq_true rfl⟩ ⟨Nat.le_refl _, Nat.le_refl _⟩ 834 ls [.ref 0] h H locs (some (.int x), [], h1) (fun z => absurd z (by simp)) (fun _ => dL_law_834) q8 hl.1 hP hS (fun H1 locs1 hP1 hS1 => ?_)
  refine W.eq (g2 := F0 m 837 ls [.int x]) rfl ?_
  refine lv_aload_n hx hb dL_law_837 rfl (lv_at hl 1 rfl) ?_
  have q9 : am_call (some 9) 0 fX9_both [.ref 77, .int x] h1 = some (some (.int x), [.int x], h2) := by rw [am_cV_0, if_pos ⟨rfl, by simp⟩, e2]; rfl
  refine am_crV (R := room_1) (cells := 99) (slots := 2130) (Q := Q) (n := 0) (ci := 9) hx hb hml hown hts hK hD hro (kX9_both l D ad cA A am_lays_ok) ⟨wx_1055, wx_64, wx_1052, by decide +kernel⟩ wx_1053 wx_1054 rfl (by decide) rfl rfl ⟨Nat.le_of_ble_eq_true rfl, Nat.le_of_ble_eq_true rfl⟩ ⟨Nat.le_refl _, Nat.le_refl _⟩ 838 ls [.ref 77, .int x] h1 H1 locs1 (some (.int x), [.int x], h2) (fun z => absurd z (by simp)) (fun _ => dL_law_838) q9 hl.1 hP1 hS1 (fun H2 locs2 hP2 hS2 => ?_)
  refine W.eq (g2 := F0 m 841 ls [.int x, .int x]) rfl ?_
  exact lv_icmp_eq (tgt := 1144) hx hb dL_law_841 (by decide) (fun _ => kk h2 H2 locs2 r2 hP2 hS2) (fun hn => absurd rfl hn)
set_option maxHeartbeats 1000000 in
theorem lc_19 (C : lx p s m c b L xs D ad cA A) {h : am_H} {H : Heap} {locs : List Loc} {ls : Array Slot} {i : Nat} (hR : Rl h) (hi : i + 6 ≤ L) (hP : va_P D vwCl (am_ws ad cA h) H) (hS : va_S A s.heap H locs) (hl : lv_has ls 4 (lx_l ad b i)) (kk : ∀ (h2 : am_H) (H2 : Heap) (locs2 : List Loc), Rl h2 → va_P D vwCl (am_ws ad cA h2) H2 → va_S A s.heap H2 locs2 → W p l e room_1 s m #[Value.ref b] below meth c H2 locs2 99 2130 Q (F0 m 1144 ls [])) : W p l e room_1 s m #[Value.ref b] below meth c H locs 99 2130 Q (F0 m 846 ls []) := by
  have C0 := C
  obtain ⟨hx, hb, hml, hown, hts, hK, hD, hro, hX, hbl, hbA, hL⟩ := C0
  obtain ⟨v, h1, h2, e1, e2, r2⟩ := r_carried (xs (i + 1)) (xs (i + 2)) h hR
  obtain ⟨x, rfl⟩ := rk2 e1
  refine lv_aload_n hx hb dL_law_846 rfl (lv_at hl 2 rfl) ?_
  refine lw_arg C hS hl hi (j := 1) (by omega) (n := 1) rfl dL_law_847 dL_law_848 dL_law_849 dL_law_850 dL_law_851 ?_
  refine lw_arg C hS hl hi (j := 2) (by omega) (n := 2) rfl dL_law_852 dL_law_853 dL_law_854 dL_law_855 dL_law_856 ?_
  have q8 : am_call (some 8) 2 fX8_carried [.int (xs (i + 2)), .int (xs (i + 1)), .ref 0] h = some (some (.long x), [], h1) := by rw [am_cV_2, if_pos ⟨rfl, by simp⟩, e1]; rfl
  refine am_crV (R := room_1) (cells := 99) (slots := 2130) (Q := Q) (n := 2) (ci := 8) hx hb hml hown hts hK hD hro (kX8_carried l D ad cA A am_lays_ok) ⟨wx_627, wx_55, wx_624, by decide +kernel⟩ wx_625 wx_626 rfl (by decide) rfl rfl ⟨Nat.le_of_ble_eq_true rfl, Nat.le_of_ble_eq_true rfl⟩ ⟨Nat.le_refl _, Nat.le_refl _⟩ 857 ls [.int (xs (i + 2)), .int (xs (i + 1)), .ref 0] h H locs (some (.long x), [], h1) (fun z => absurd z (by simp)) (fun _ => dL_law_857) q8 hl.1 hP hS (fun H1 locs1 hP1 hS1 => ?_)
  refine W.eq (g2 := F0 m 860 ls [.long x]) rfl ?_
  refine lv_aload_n hx hb dL_law_860 rfl (lv_at hl 1 rfl) ?_
  refine lw_arg C hS1 hl hi (j := 1) (by omega) (n := 1) rfl dL_law_861 dL_law_862 dL_law_863 dL_law_864 dL_law_865 ?_
  refine lw_arg C hS1 hl hi (j := 2) (by omega) (n := 2) rfl dL_law_866 dL_law_867 dL_law_868 dL_law_869 dL_law_870 ?_
  have q9 : am_call (some 9) 2 fX9_carried [.int (xs (i + 2)), .int (xs (i + 1)), .ref 77, .long x] h1 = some (some (.long x), [.long x], h2) := by rw [am_cV_2, if_pos ⟨rfl, by simp⟩, e2]; rfl
  refine am_crV (R := room_1) (cells := 99) (slots := 2130) (Q := Q) (n := 2) (ci := 9) hx hb hml hown hts hK hD hro (kX9_carried l D ad cA A am_lays_ok) ⟨wx_1063, wx_64, wx_1060, by decide +kernel⟩ wx_1061 wx_1062 rfl (by decide) rfl rfl ⟨Nat.le_of_ble_eq_true rfl, Nat.le_of_ble_eq_true rfl⟩ ⟨Nat.le_refl _, Nat.le_refl _⟩ 871 ls [.int (xs (i + 2)), .int (xs (i + 1)), .ref 77, .long x] h1 H1 locs1 (some (.long x), [.long x], h2) (fun z => absurd z (by simp)) (fun _ => dL_law_871) q9 hl.1 hP1 hS1 (fun H2 locs2 hP2 hS2 => ?_)
  refine W.eq (g2 := F0 m 874 ls [.long x, .long x]) rfl ?_
  refine W.lcmp hx hb dL_law_874 ?_
  exact lv_if_eq (tgt := 1144) hx hb dL_law_875 (by decide) (fun _ => kk h2 H2 locs2 r2 hP2 hS2) (fun hn => by rw [am_lc_eq0] at hn; exact absurd rfl hn)
set_option maxHeartbeats 1000000 in
theorem lc_20 (C : lx p s m c b L xs D ad cA A) {h : am_H} {H : Heap} {locs : List Loc} {ls : Array Slot} {i : Nat} (hR : Rl h) (hi : i + 6 ≤ L) (hP : va_P D vwCl (am_ws ad cA h) H) (hS : va_S A s.heap H locs) (hl : lv_has ls 4 (lx_l ad b i)) (kk : ∀ (h2 : am_H) (H2 : Heap) (locs2 : List Loc), Rl h2 → va_P D vwCl (am_ws ad cA h2) H2 → va_S A s.heap H2 locs2 → W p l e room_1 s m #[Value.ref b] below meth c H2 locs2 99 2130 Q (F0 m 1144 ls [])) : W p l e room_1 s m #[Value.ref b] below meth c H locs 99 2130 Q (F0 m 880 ls []) := by
  have C0 := C
  obtain ⟨hx, hb, hml, hown, hts, hK, hD, hro, hX, hbl, hbA, hL⟩ := C0
  obtain ⟨v, h1, h2, e1, e2, r2⟩ := r_mover (xs (i + 1)) (xs (i + 2)) h hR
  obtain ⟨x, rfl⟩ := rk0 e1
  refine lv_aload_n hx hb dL_law_880 rfl (lv_at hl 2 rfl) ?_
  refine lw_arg C hS hl hi (j := 1) (by omega) (n := 1) rfl dL_law_881 dL_law_882 dL_law_883 dL_law_884 dL_law_885 ?_
  refine lw_arg C hS hl hi (j := 2) (by omega) (n := 2) rfl dL_law_886 dL_law_887 dL_law_888 dL_law_889 dL_law_890 ?_
  have q8 : am_call (some 8) 2 fX8_mover [.int (xs (i + 2)), .int (xs (i + 1)), .ref 0] h = some (some (.int x), [], h1) := by rw [am_cV_2, if_pos ⟨rfl, by simp⟩, e1]; rfl
  refine am_crV (R := room_1) (cells := 99) (slots := 2130) (Q := Q) (n := 2) (ci := 8) hx hb hml hown hts hK hD hro (kX8_mover l D ad cA A am_lays_ok) ⟨wx_635, wx_55, wx_632, by decide +kernel⟩ wx_633 wx_634 rfl (by decide) rfl rfl ⟨Nat.le_of_ble_eq_true rfl, Nat.le_of_ble_eq_true rfl⟩ ⟨Nat.le_refl _, Nat.le_refl _⟩ 891 ls [.int (xs (i + 2)), .int (xs (i + 1)), .ref 0] h H locs (some (.int x), [], h1) (fun z => absurd z (by simp)) (fun _ => dL_law_891) q8 hl.1 hP hS (fun H1 locs1 hP1 hS1 => ?_)
  refine W.eq (g2 := F0 m 894 ls [.int x]) rfl ?_
  refine lv_aload_n hx hb dL_law_894 rfl (lv_at hl 1 rfl) ?_
  refine lw_arg C hS1 hl hi (j := 1) (by omega) (n := 1) rfl dL_law_895 dL_law_896 dL_law_897 dL_law_898 dL_law_899 ?_
  refine lw_arg C hS1 hl hi (j := 2) (by omega) (n := 2) rfl dL_law_900 dL_law_901 dL_law_902 dL_law_903 dL_law_904 ?_
  have q9 : am_call (some 9) 2 fX9_mover [.int (xs (i + 2)), .int (xs (i + 1)), .ref 77, .int x] h1 = some (some (.int x), [.int x], h2) := by rw [am_cV_2, if_pos ⟨rfl, by simp⟩, e2]; rfl
  refine am_crV (R := room_1) (cells := 99) (slots := 2130) (Q := Q) (n := 2) (ci := 9) hx hb hml hown hts hK hD hro (kX9_mover l D ad cA A am_lays_ok) ⟨wx_1067, wx_64, wx_1064, by decide +kernel⟩ wx_1065 wx_1066 rfl (by decide) rfl rfl ⟨Nat.le_of_ble_eq_true rfl, Nat.le_of_ble_eq_true rfl⟩ ⟨Nat.le_refl _, Nat.le_refl _⟩ 905 ls [.int (xs (i + 2)), .int (xs (i + 1)), .ref 77, .int x] h1 H1 locs1 (some (.int x), [.int x], h2) (fun z => absurd z (by simp)) (fun _ => dL_law_905) q9 hl.1 hP1 hS1 (fun H2 locs2 hP2 hS2 => ?_)
  refine W.eq (g2 := F0 m 908 ls [.int x, .int x]) rfl ?_
  exact lv_icmp_eq (tgt := 1144) hx hb dL_law_908 (by decide) (fun _ => kk h2 H2 locs2 r2 hP2 hS2) (fun hn => absurd rfl hn)
set_option maxHeartbeats 1000000 in
theorem lc_21 (C : lx p s m c b L xs D ad cA A) {h : am_H} {H : Heap} {locs : List Loc} {ls : Array Slot} {i : Nat} (hR : Rl h) (hi : i + 6 ≤ L) (hP : va_P D vwCl (am_ws ad cA h) H) (hS : va_S A s.heap H locs) (hl : lv_has ls 4 (lx_l ad b i)) (kk : ∀ (h2 : am_H) (H2 : Heap) (locs2 : List Loc), Rl h2 → va_P D vwCl (am_ws ad cA h2) H2 → va_S A s.heap H2 locs2 → W p l e room_1 s m #[Value.ref b] below meth c H2 locs2 99 2130 Q (F0 m 1144 ls [])) : W p l e room_1 s m #[Value.ref b] below meth c H locs 99 2130 Q (F0 m 913 ls []) := by
  have C0 := C
  obtain ⟨hx, hb, hml, hown, hts, hK, hD, hro, hX, hbl, hbA, hL⟩ := C0
  obtain ⟨v, h1, h2, e1, e2, r2⟩ := r_blinks h hR
  obtain ⟨x, rfl⟩ := rk0 e1
  refine lv_aload_n hx hb dL_law_913 rfl (lv_at hl 2 rfl) ?_
  have q8 : am_call (some 8) 0 fX8_blinks [.ref 0] h = some (some (.int x), [], h1) := by rw [am_cV_0, if_pos ⟨rfl, by simp⟩, e1]; rfl
  refine am_crV (R := room_1) (cells := 99) (slots := 2130) (Q := Q) (n := 0) (ci := 8) hx hb hml hown hts hK hD hro (kX8_blinks l D ad cA A am_lays_ok) ⟨wx_660, wx_55, wx_657, by decide +kernel⟩ wx_658 wx_659 rfl (by decide) rfl rfl ⟨Nat.le_of_ble_eq_true rfl, Nat.le_of_ble_eq_true rfl⟩ ⟨Nat.le_refl _, Nat.le_refl _⟩ 914 ls [.ref 0] h H locs (some (.int x), [], h1) (fun z => absurd z (by simp)) (fun _ => dL_law_914) q8 hl.1 hP hS (fun H1 locs1 hP1 hS1 => ?_)
  refine W.eq (g2 := F0 m 917 ls [.int x]) rfl ?_
  refine lv_aload_n hx hb dL_law_917 rfl (lv_at hl 1 rfl) ?_
  have q9 : am_call (some 9) 0 fX9_blinks [.ref 77, .int x] h1 = some (some (.int x), [.int x], h2) := by rw [am_cV_0, if_pos ⟨rfl, by simp⟩, e2]; rfl
  refine am_crV (R := room_1) (cells := 99) (slots := 2130) (Q := Q) (n := 0) (ci := 9) hx hb hml hown hts hK hD hro (kX9_blinks l D ad cA A am_lays_ok) ⟨wx_1083, wx_64, wx_1080, by decide +kernel⟩ wx_1081 wx_1082 rfl (by decide) rfl rfl ⟨Nat.le_of_ble_eq_true rfl, Nat.le_of_ble_eq_true rfl⟩ ⟨Nat.le_refl _, Nat.le_refl _⟩ 918 ls [.ref 77, .int x] h1 H1 locs1 (some (.int x), [.int x], h2) (fun z => absurd z (by simp)) (fun _ => dL_law_918) q9 hl.1 hP1 hS1 (fun H2 locs2 hP2 hS2 => ?_)
  refine W.eq (g2 := F0 m 921 ls [.int x, .int x]) rfl ?_
  exact lv_icmp_eq (tgt := 1144) hx hb dL_law_921 (by decide) (fun _ => kk h2 H2 locs2 r2 hP2 hS2) (fun hn => absurd rfl hn)
set_option maxHeartbeats 1000000 in
theorem lc_22 (C : lx p s m c b L xs D ad cA A) {h : am_H} {H : Heap} {locs : List Loc} {ls : Array Slot} {i : Nat} (hR : Rl h) (hi : i + 6 ≤ L) (hP : va_P D vwCl (am_ws ad cA h) H) (hS : va_S A s.heap H locs) (hl : lv_has ls 4 (lx_l ad b i)) (kk : ∀ (h2 : am_H) (H2 : Heap) (locs2 : List Loc), Rl h2 → va_P D vwCl (am_ws ad cA h2) H2 → va_S A s.heap H2 locs2 → W p l e room_1 s m #[Value.ref b] below meth c H2 locs2 99 2130 Q (F0 m 1144 ls [])) : W p l e room_1 s m #[Value.ref b] below meth c H locs 99 2130 Q (F0 m 926 ls []) := by
  have C0 := C
  obtain ⟨hx, hb, hml, hown, hts, hK, hD, hro, hX, hbl, hbA, hL⟩ := C0
  obtain ⟨v, h1, h2, e1, e2, r2⟩ := r_keep (xs (i + 1)) (xs (i + 2)) h hR
  obtain ⟨x, rfl⟩ := rk0 e1
  refine lv_aload_n hx hb dL_law_926 rfl (lv_at hl 2 rfl) ?_
  refine lw_arg C hS hl hi (j := 1) (by omega) (n := 1) rfl dL_law_927 dL_law_928 dL_law_929 dL_law_930 dL_law_931 ?_
  refine lw_arg C hS hl hi (j := 2) (by omega) (n := 2) rfl dL_law_932 dL_law_933 dL_law_934 dL_law_935 dL_law_936 ?_
  have q8 : am_call (some 8) 2 fX8_keep [.int (xs (i + 2)), .int (xs (i + 1)), .ref 0] h = some (some (.int x), [], h1) := by rw [am_cV_2, if_pos ⟨rfl, by simp⟩, e1]; rfl
  refine am_crV (R := room_1) (cells := 99) (slots := 2130) (Q := Q) (n := 2) (ci := 8) hx hb hml hown hts hK hD hro (kX8_keep l D ad cA A am_lays_ok) ⟨wx_669, wx_55, wx_666, by decide +kernel⟩ wx_667 wx_668 rfl (by decide) rfl rfl ⟨Nat.le_of_ble_eq_true rfl, Nat.le_of_ble_eq_true rfl⟩ ⟨Nat.le_refl _, Nat.le_refl _⟩ 937 ls [.int (xs (i + 2)), .int (xs (i + 1)), .ref 0] h H locs (some (.int x), [], h1) (fun z => absurd z (by simp)) (fun _ => dL_law_937) q8 hl.1 hP hS (fun H1 locs1 hP1 hS1 => ?_)
  refine W.eq (g2 := F0 m 940 ls [.int x]) rfl ?_
  refine lv_aload_n hx hb dL_law_940 rfl (lv_at hl 1 rfl) ?_
  refine lw_arg C hS1 hl hi (j := 1) (by omega) (n := 1) rfl dL_law_941 dL_law_942 dL_law_943 dL_law_944 dL_law_945 ?_
  refine lw_arg C hS1 hl hi (j := 2) (by omega) (n := 2) rfl dL_law_946 dL_law_947 dL_law_948 dL_law_949 dL_law_950 ?_
  have q9 : am_call (some 9) 2 fX9_keep [.int (xs (i + 2)), .int (xs (i + 1)), .ref 77, .int x] h1 = some (some (.int x), [.int x], h2) := by rw [am_cV_2, if_pos ⟨rfl, by simp⟩, e2]; rfl
  refine am_crV (R := room_1) (cells := 99) (slots := 2130) (Q := Q) (n := 2) (ci := 9) hx hb hml hown hts hK hD hro (kX9_keep l D ad cA A am_lays_ok) ⟨wx_1087, wx_64, wx_1084, by decide +kernel⟩ wx_1085 wx_1086 rfl (by decide) rfl rfl ⟨Nat.le_of_ble_eq_true rfl, Nat.le_of_ble_eq_true rfl⟩ ⟨Nat.le_refl _, Nat.le_refl _⟩ 951 ls [.int (xs (i + 2)), .int (xs (i + 1)), .ref 77, .int x] h1 H1 locs1 (some (.int x), [.int x], h2) (fun z => absurd z (by simp)) (fun _ => dL_law_951) q9 hl.1 hP1 hS1 (fun H2 locs2 hP2 hS2 => ?_)
  refine W.eq (g2 := F0 m 954 ls [.int x, .int x]) rfl ?_
  exact lv_icmp_eq (tgt := 1144) hx hb dL_law_954 (by decide) (fun _ => kk h2 H2 locs2 r2 hP2 hS2) (fun hn => absurd rfl hn)
set_option maxHeartbeats 1000000 in
theorem lc_23 (C : lx p s m c b L xs D ad cA A) {h : am_H} {H : Heap} {locs : List Loc} {ls : Array Slot} {i : Nat} (hR : Rl h) (hi : i + 6 ≤ L) (hP : va_P D vwCl (am_ws ad cA h) H) (hS : va_S A s.heap H locs) (hl : lv_has ls 4 (lx_l ad b i)) (kk : ∀ (h2 : am_H) (H2 : Heap) (locs2 : List Loc), Rl h2 → va_P D vwCl (am_ws ad cA h2) H2 → va_S A s.heap H2 locs2 → W p l e room_1 s m #[Value.ref b] below meth c H2 locs2 99 2130 Q (F0 m 1144 ls [])) : W p l e room_1 s m #[Value.ref b] below meth c H locs 99 2130 Q (F0 m 959 ls []) := by
  have C0 := C
  obtain ⟨hx, hb, hml, hown, hts, hK, hD, hro, hX, hbl, hbA, hL⟩ := C0
  obtain ⟨v, h1, h2, e1, e2, r2⟩ := r_restore (xs (i + 1)) (xs (i + 2)) h hR
  obtain ⟨x, rfl⟩ := rk0 e1
  refine lv_aload_n hx hb dL_law_959 rfl (lv_at hl 2 rfl) ?_
  refine lw_arg C hS hl hi (j := 1) (by omega) (n := 1) rfl dL_law_960 dL_law_961 dL_law_962 dL_law_963 dL_law_964 ?_
  refine lw_arg C hS hl hi (j := 2) (by omega) (n := 2) rfl dL_law_965 dL_law_966 dL_law_967 dL_law_968 dL_law_969 ?_
  have q8 : am_call (some 8) 2 fX8_restore [.int (xs (i + 2)), .int (xs (i + 1)), .ref 0] h = some (some (.int x), [], h1) := by rw [am_cV_2, if_pos ⟨rfl, by simp⟩, e1]; rfl
  refine am_crV (R := room_1) (cells := 99) (slots := 2130) (Q := Q) (n := 2) (ci := 8) hx hb hml hown hts hK hD hro (kX8_restore l D ad cA A am_lays_ok) ⟨wx_680, wx_55, wx_677, by decide +kernel⟩ wx_678 wx_679 rfl (by decide) rfl rfl ⟨Nat.le_of_ble_eq_true rfl, Nat.le_of_ble_eq_true rfl⟩ ⟨Nat.le_refl _, Nat.le_refl _⟩ 970 ls [.int (xs (i + 2)), .int (xs (i + 1)), .ref 0] h H locs (some (.int x), [], h1) (fun z => absurd z (by simp)) (fun _ => dL_law_970) q8 hl.1 hP hS (fun H1 locs1 hP1 hS1 => ?_)
  refine W.eq (g2 := F0 m 973 ls [.int x]) rfl ?_
  refine lv_aload_n hx hb dL_law_973 rfl (lv_at hl 1 rfl) ?_
  refine lw_arg C hS1 hl hi (j := 1) (by omega) (n := 1) rfl dL_law_974 dL_law_975 dL_law_976 dL_law_977 dL_law_978 ?_
  refine lw_arg C hS1 hl hi (j := 2) (by omega) (n := 2) rfl dL_law_979 dL_law_980 dL_law_981 dL_law_982 dL_law_983 ?_
  have q9 : am_call (some 9) 2 fX9_restore [.int (xs (i + 2)), .int (xs (i + 1)), .ref 77, .int x] h1 = some (some (.int x), [.int x], h2) := by rw [am_cV_2, if_pos ⟨rfl, by simp⟩, e2]; rfl
  refine am_crV (R := room_1) (cells := 99) (slots := 2130) (Q := Q) (n := 2) (ci := 9) hx hb hml hown hts hK hD hro (kX9_restore l D ad cA A am_lays_ok) ⟨wx_1091, wx_64, wx_1088, by decide +kernel⟩ wx_1089 wx_1090 rfl (by decide) rfl rfl ⟨Nat.le_of_ble_eq_true rfl, Nat.le_of_ble_eq_true rfl⟩ ⟨Nat.le_refl _, Nat.le_refl _⟩ 984 ls [.int (xs (i + 2)), .int (xs (i + 1)), .ref 77, .int x] h1 H1 locs1 (some (.int x), [.int x], h2) (fun z => absurd z (by simp)) (fun _ => dL_law_984) q9 hl.1 hP1 hS1 (fun H2 locs2 hP2 hS2 => ?_)
  refine W.eq (g2 := F0 m 987 ls [.int x, .int x]) rfl ?_
  exact lv_icmp_eq (tgt := 1144) hx hb dL_law_987 (by decide) (fun _ => kk h2 H2 locs2 r2 hP2 hS2) (fun hn => absurd rfl hn)
set_option maxHeartbeats 1000000 in
theorem lc_24 (C : lx p s m c b L xs D ad cA A) {h : am_H} {H : Heap} {locs : List Loc} {ls : Array Slot} {i : Nat} (hR : Rl h) (hi : i + 6 ≤ L) (hP : va_P D vwCl (am_ws ad cA h) H) (hS : va_S A s.heap H locs) (hl : lv_has ls 4 (lx_l ad b i)) (kk : ∀ (h2 : am_H) (H2 : Heap) (locs2 : List Loc), Rl h2 → va_P D vwCl (am_ws ad cA h2) H2 → va_S A s.heap H2 locs2 → W p l e room_1 s m #[Value.ref b] below meth c H2 locs2 99 2130 Q (F0 m 1144 ls [])) : W p l e room_1 s m #[Value.ref b] below meth c H locs 99 2130 Q (F0 m 992 ls []) := by
  have C0 := C
  obtain ⟨hx, hb, hml, hown, hts, hK, hD, hro, hX, hbl, hbA, hL⟩ := C0
  obtain ⟨v, h1, h2, e1, e2, r2⟩ := r_tray (xs (i + 1)) (xs (i + 2)) (xs (i + 3)) h hR
  obtain ⟨x, rfl⟩ := rk0 e1
  refine lv_aload_n hx hb dL_law_992 rfl (lv_at hl 2 rfl) ?_
  refine lw_arg C hS hl hi (j := 1) (by omega) (n := 1) rfl dL_law_993 dL_law_994 dL_law_995 dL_law_996 dL_law_997 ?_
  refine lw_arg C hS hl hi (j := 2) (by omega) (n := 2) rfl dL_law_998 dL_law_999 dL_law_1000 dL_law_1001 dL_law_1002 ?_
  refine lw_arg C hS hl hi (j := 3) (by omega) (n := 3) rfl dL_law_1003 dL_law_1004 dL_law_1005 dL_law_1006 dL_law_1007 ?_
  have q8 : am_call (some 8) 3 fX8_tray [.int (xs (i + 3)), .int (xs (i + 2)), .int (xs (i + 1)), .ref 0] h = some (some (.int x), [], h1) := by rw [am_cV_3, if_pos ⟨rfl, by simp⟩, e1]; rfl
  refine am_crV (R := room_1) (cells := 99) (slots := 2130) (Q := Q) (n := 3) (ci := 8) hx hb hml hown hts hK hD hro (kX8_tray l D ad cA A am_lays_ok) ⟨wx_684, wx_55, wx_681, by decide +kernel⟩ wx_682 wx_683 rfl (by decide) rfl rfl ⟨Nat.le_of_ble_eq_true rfl, Nat.le_of_ble_eq_true rfl⟩ ⟨Nat.le_refl _, Nat.le_refl _⟩ 1008 ls [.int (xs (i + 3)), .int (xs (i + 2)), .int (xs (i + 1)), .ref 0] h H locs (some (.int x), [], h1) (fun z => absurd z (by simp)) (fun _ => dL_law_1008) q8 hl.1 hP hS (fun H1 locs1 hP1 hS1 => ?_)
  refine W.eq (g2 := F0 m 1011 ls [.int x]) rfl ?_
  refine lv_aload_n hx hb dL_law_1011 rfl (lv_at hl 1 rfl) ?_
  refine lw_arg C hS1 hl hi (j := 1) (by omega) (n := 1) rfl dL_law_1012 dL_law_1013 dL_law_1014 dL_law_1015 dL_law_1016 ?_
  refine lw_arg C hS1 hl hi (j := 2) (by omega) (n := 2) rfl dL_law_1017 dL_law_1018 dL_law_1019 dL_law_1020 dL_law_1021 ?_
  refine lw_arg C hS1 hl hi (j := 3) (by omega) (n := 3) rfl dL_law_1022 dL_law_1023 dL_law_1024 dL_law_1025 dL_law_1026 ?_
  have q9 : am_call (some 9) 3 fX9_tray [.int (xs (i + 3)), .int (xs (i + 2)), .int (xs (i + 1)), .ref 77, .int x] h1 = some (some (.int x), [.int x], h2) := by rw [am_cV_3, if_pos ⟨rfl, by simp⟩, e2]; rfl
  refine am_crV (R := room_1) (cells := 99) (slots := 2130) (Q := Q) (n := 3) (ci := 9) hx hb hml hown hts hK hD hro (kX9_tray l D ad cA A am_lays_ok) ⟨wx_1095, wx_64, wx_1092, by decide +kernel⟩ wx_1093 wx_1094 rfl (by decide) rfl rfl ⟨Nat.le_of_ble_eq_true rfl, Nat.le_of_ble_eq_true rfl⟩ ⟨Nat.le_refl _, Nat.le_refl _⟩ 1027 ls [.int (xs (i + 3)), .int (xs (i + 2)), .int (xs (i + 1)), .ref 77, .int x] h1 H1 locs1 (some (.int x), [.int x], h2) (fun z => absurd z (by simp)) (fun _ => dL_law_1027) q9 hl.1 hP1 hS1 (fun H2 locs2 hP2 hS2 => ?_)
  refine W.eq (g2 := F0 m 1030 ls [.int x, .int x]) rfl ?_
  exact lv_icmp_eq (tgt := 1144) hx hb dL_law_1030 (by decide) (fun _ => kk h2 H2 locs2 r2 hP2 hS2) (fun hn => absurd rfl hn)
set_option maxHeartbeats 1000000 in
theorem lc_25 (C : lx p s m c b L xs D ad cA A) {h : am_H} {H : Heap} {locs : List Loc} {ls : Array Slot} {i : Nat} (hR : Rl h) (hi : i + 6 ≤ L) (hP : va_P D vwCl (am_ws ad cA h) H) (hS : va_S A s.heap H locs) (hl : lv_has ls 4 (lx_l ad b i)) (kk : ∀ (h2 : am_H) (H2 : Heap) (locs2 : List Loc), Rl h2 → va_P D vwCl (am_ws ad cA h2) H2 → va_S A s.heap H2 locs2 → W p l e room_1 s m #[Value.ref b] below meth c H2 locs2 99 2130 Q (F0 m 1144 ls [])) : W p l e room_1 s m #[Value.ref b] below meth c H locs 99 2130 Q (F0 m 1035 ls []) := by
  have C0 := C
  obtain ⟨hx, hb, hml, hown, hts, hK, hD, hro, hX, hbl, hbA, hL⟩ := C0
  obtain ⟨v, h1, h2, e1, e2, r2⟩ := r_lay (xs (i + 1)) (xs (i + 2)) (xs (i + 3)) (xs (i + 4)) h hR
  obtain ⟨x, rfl⟩ := rk0 e1
  refine lv_aload_n hx hb dL_law_1035 rfl (lv_at hl 2 rfl) ?_
  refine lw_arg C hS hl hi (j := 1) (by omega) (n := 1) rfl dL_law_1036 dL_law_1037 dL_law_1038 dL_law_1039 dL_law_1040 ?_
  refine lw_arg C hS hl hi (j := 2) (by omega) (n := 2) rfl dL_law_1041 dL_law_1042 dL_law_1043 dL_law_1044 dL_law_1045 ?_
  refine lw_arg C hS hl hi (j := 3) (by omega) (n := 3) rfl dL_law_1046 dL_law_1047 dL_law_1048 dL_law_1049 dL_law_1050 ?_
  refine lw_arg C hS hl hi (j := 4) (by omega) (n := 4) rfl dL_law_1051 dL_law_1052 dL_law_1053 dL_law_1054 dL_law_1055 ?_
  have q8 : am_call (some 8) 4 fX8_lay [.int (xs (i + 4)), .int (xs (i + 3)), .int (xs (i + 2)), .int (xs (i + 1)), .ref 0] h = some (some (.int x), [], h1) := by rw [am_cV_4, if_pos ⟨rfl, by simp⟩, e1]; rfl
  refine am_crV (R := room_1) (cells := 99) (slots := 2130) (Q := Q) (n := 4) (ci := 8) hx hb hml hown hts hK hD hro (kX8_lay l D ad cA A am_lays_ok) ⟨wx_693, wx_55, wx_690, by decide +kernel⟩ wx_691 wx_692 rfl (by decide) rfl rfl ⟨Nat.le_of_ble_eq_true rfl, Nat.le_of_ble_eq_true rfl⟩ ⟨Nat.le_refl _, Nat.le_refl _⟩ 1056 ls [.int (xs (i + 4)), .int (xs (i + 3)), .int (xs (i + 2)), .int (xs (i + 1)), .ref 0] h H locs (some (.int x), [], h1) (fun z => absurd z (by simp)) (fun _ => dL_law_1056) q8 hl.1 hP hS (fun H1 locs1 hP1 hS1 => ?_)
  refine W.eq (g2 := F0 m 1059 ls [.int x]) rfl ?_
  refine lv_aload_n hx hb dL_law_1059 rfl (lv_at hl 1 rfl) ?_
  refine lw_arg C hS1 hl hi (j := 1) (by omega) (n := 1) rfl dL_law_1060 dL_law_1061 dL_law_1062 dL_law_1063 dL_law_1064 ?_
  refine lw_arg C hS1 hl hi (j := 2) (by omega) (n := 2) rfl dL_law_1065 dL_law_1066 dL_law_1067 dL_law_1068 dL_law_1069 ?_
  refine lw_arg C hS1 hl hi (j := 3) (by omega) (n := 3) rfl dL_law_1070 dL_law_1071 dL_law_1072 dL_law_1073 dL_law_1074 ?_
  refine lw_arg C hS1 hl hi (j := 4) (by omega) (n := 4) rfl dL_law_1075 dL_law_1076 dL_law_1077 dL_law_1078 dL_law_1079 ?_
  have q9 : am_call (some 9) 4 fX9_lay [.int (xs (i + 4)), .int (xs (i + 3)), .int (xs (i + 2)), .int (xs (i + 1)), .ref 77, .int x] h1 = some (some (.int x), [.int x], h2) := by rw [am_cV_4, if_pos ⟨rfl, by simp⟩, e2]; rfl
  refine am_crV (R := room_1) (cells := 99) (slots := 2130) (Q := Q) (n := 4) (ci := 9) hx hb hml hown hts hK hD hro (kX9_lay l D ad cA A am_lays_ok) ⟨wx_1102, wx_64, wx_1099, by decide +kernel⟩ wx_1100 wx_1101 rfl (by decide) rfl rfl ⟨Nat.le_of_ble_eq_true rfl, Nat.le_of_ble_eq_true rfl⟩ ⟨Nat.le_refl _, Nat.le_refl _⟩ 1080 ls [.int (xs (i + 4)), .int (xs (i + 3)), .int (xs (i + 2)), .int (xs (i + 1)), .ref 77, .int x] h1 H1 locs1 (some (.int x), [.int x], h2) (fun z => absurd z (by simp)) (fun _ => dL_law_1080) q9 hl.1 hP1 hS1 (fun H2 locs2 hP2 hS2 => ?_)
  refine W.eq (g2 := F0 m 1083 ls [.int x, .int x]) rfl ?_
  exact lv_icmp_eq (tgt := 1144) hx hb dL_law_1083 (by decide) (fun _ => kk h2 H2 locs2 r2 hP2 hS2) (fun hn => absurd rfl hn)
set_option maxHeartbeats 1000000 in
theorem lc_26 (C : lx p s m c b L xs D ad cA A) {h : am_H} {H : Heap} {locs : List Loc} {ls : Array Slot} {i : Nat} (hR : Rl h) (hi : i + 6 ≤ L) (hP : va_P D vwCl (am_ws ad cA h) H) (hS : va_S A s.heap H locs) (hl : lv_has ls 4 (lx_l ad b i)) (kk : ∀ (h2 : am_H) (H2 : Heap) (locs2 : List Loc), Rl h2 → va_P D vwCl (am_ws ad cA h2) H2 → va_S A s.heap H2 locs2 → W p l e room_1 s m #[Value.ref b] below meth c H2 locs2 99 2130 Q (F0 m 1144 ls [])) : W p l e room_1 s m #[Value.ref b] below meth c H locs 99 2130 Q (F0 m 1088 ls []) := by
  have C0 := C
  obtain ⟨hx, hb, hml, hown, hts, hK, hD, hro, hX, hbl, hbA, hL⟩ := C0
  obtain ⟨v, h1, h2, e1, e2, r2⟩ := r_seen (xs (i + 1)) (xs (i + 2)) h hR
  obtain ⟨x, rfl⟩ := rk0 e1
  refine lv_aload_n hx hb dL_law_1088 rfl (lv_at hl 2 rfl) ?_
  refine lw_arg C hS hl hi (j := 1) (by omega) (n := 1) rfl dL_law_1089 dL_law_1090 dL_law_1091 dL_law_1092 dL_law_1093 ?_
  refine lw_arg C hS hl hi (j := 2) (by omega) (n := 2) rfl dL_law_1094 dL_law_1095 dL_law_1096 dL_law_1097 dL_law_1098 ?_
  have q8 : am_call (some 8) 2 fX8_seen [.int (xs (i + 2)), .int (xs (i + 1)), .ref 0] h = some (some (.int x), [], h1) := by rw [am_cV_2, if_pos ⟨rfl, by simp⟩, e1]; rfl
  refine am_crV (R := room_1) (cells := 99) (slots := 2130) (Q := Q) (n := 2) (ci := 8) hx hb hml hown hts hK hD hro (kX8_seen l D ad cA A am_lays_ok) ⟨wx_705, wx_55, wx_702, by decide +kernel⟩ wx_703 wx_704 rfl (by decide) rfl rfl ⟨Nat.le_of_ble_eq_true rfl, Nat.le_of_ble_eq_true rfl⟩ ⟨Nat.le_refl _, Nat.le_refl _⟩ 1099 ls [.int (xs (i + 2)), .int (xs (i + 1)), .ref 0] h H locs (some (.int x), [], h1) (fun z => absurd z (by simp)) (fun _ => dL_law_1099) q8 hl.1 hP hS (fun H1 locs1 hP1 hS1 => ?_)
  refine W.eq (g2 := F0 m 1102 ls [.int x]) rfl ?_
  refine lv_aload_n hx hb dL_law_1102 rfl (lv_at hl 1 rfl) ?_
  refine lw_arg C hS1 hl hi (j := 1) (by omega) (n := 1) rfl dL_law_1103 dL_law_1104 dL_law_1105 dL_law_1106 dL_law_1107 ?_
  refine lw_arg C hS1 hl hi (j := 2) (by omega) (n := 2) rfl dL_law_1108 dL_law_1109 dL_law_1110 dL_law_1111 dL_law_1112 ?_
  have q9 : am_call (some 9) 2 fX9_seen [.int (xs (i + 2)), .int (xs (i + 1)), .ref 77, .int x] h1 = some (some (.int x), [.int x], h2) := by rw [am_cV_2, if_pos ⟨rfl, by simp⟩, e2]; rfl
  refine am_crV (R := room_1) (cells := 99) (slots := 2130) (Q := Q) (n := 2) (ci := 9) hx hb hml hown hts hK hD hro (kX9_seen l D ad cA A am_lays_ok) ⟨wx_1110, wx_64, wx_1107, by decide +kernel⟩ wx_1108 wx_1109 rfl (by decide) rfl rfl ⟨Nat.le_of_ble_eq_true rfl, Nat.le_of_ble_eq_true rfl⟩ ⟨Nat.le_refl _, Nat.le_refl _⟩ 1113 ls [.int (xs (i + 2)), .int (xs (i + 1)), .ref 77, .int x] h1 H1 locs1 (some (.int x), [.int x], h2) (fun z => absurd z (by simp)) (fun _ => dL_law_1113) q9 hl.1 hP1 hS1 (fun H2 locs2 hP2 hS2 => ?_)
  refine W.eq (g2 := F0 m 1116 ls [.int x, .int x]) rfl ?_
  exact lv_icmp_eq (tgt := 1144) hx hb dL_law_1116 (by decide) (fun _ => kk h2 H2 locs2 r2 hP2 hS2) (fun hn => absurd rfl hn)
set_option maxHeartbeats 1000000 in
theorem lc_27 (C : lx p s m c b L xs D ad cA A) {h : am_H} {H : Heap} {locs : List Loc} {ls : Array Slot} {i : Nat} (hR : Rl h) (hi : i + 6 ≤ L) (hP : va_P D vwCl (am_ws ad cA h) H) (hS : va_S A s.heap H locs) (hl : lv_has ls 4 (lx_l ad b i)) (kk : ∀ (h2 : am_H) (H2 : Heap) (locs2 : List Loc), Rl h2 → va_P D vwCl (am_ws ad cA h2) H2 → va_S A s.heap H2 locs2 → W p l e room_1 s m #[Value.ref b] below meth c H2 locs2 99 2130 Q (F0 m 1144 ls [])) : W p l e room_1 s m #[Value.ref b] below meth c H locs 99 2130 Q (F0 m 1121 ls []) := by
  have C0 := C
  obtain ⟨hx, hb, hml, hown, hts, hK, hD, hro, hX, hbl, hbA, hL⟩ := C0
  obtain ⟨v, h1, h2, e1, e2, r2⟩ := r_many (xs (i + 1)) h hR
  obtain ⟨x, rfl⟩ := rk0 e1
  refine lv_aload_n hx hb dL_law_1121 rfl (lv_at hl 2 rfl) ?_
  refine lw_arg C hS hl hi (j := 1) (by omega) (n := 1) rfl dL_law_1122 dL_law_1123 dL_law_1124 dL_law_1125 dL_law_1126 ?_
  have q8 : am_call (some 8) 1 fX8_many [.int (xs (i + 1)), .ref 0] h = some (some (.int x), [], h1) := by rw [am_cV_1, if_pos ⟨rfl, by simp⟩, e1]; rfl
  refine am_crV (R := room_1) (cells := 99) (slots := 2130) (Q := Q) (n := 1) (ci := 8) hx hb hml hown hts hK hD hro (kX8_many l D ad cA A am_lays_ok) ⟨wx_709, wx_55, wx_706, by decide +kernel⟩ wx_707 wx_708 rfl (by decide) rfl rfl ⟨Nat.le_of_ble_eq_true rfl, Nat.le_of_ble_eq_true rfl⟩ ⟨Nat.le_refl _, Nat.le_refl _⟩ 1127 ls [.int (xs (i + 1)), .ref 0] h H locs (some (.int x), [], h1) (fun z => absurd z (by simp)) (fun _ => dL_law_1127) q8 hl.1 hP hS (fun H1 locs1 hP1 hS1 => ?_)
  refine W.eq (g2 := F0 m 1130 ls [.int x]) rfl ?_
  refine lv_aload_n hx hb dL_law_1130 rfl (lv_at hl 1 rfl) ?_
  refine lw_arg C hS1 hl hi (j := 1) (by omega) (n := 1) rfl dL_law_1131 dL_law_1132 dL_law_1133 dL_law_1134 dL_law_1135 ?_
  have q9 : am_call (some 9) 1 fX9_many [.int (xs (i + 1)), .ref 77, .int x] h1 = some (some (.int x), [.int x], h2) := by rw [am_cV_1, if_pos ⟨rfl, by simp⟩, e2]; rfl
  refine am_crV (R := room_1) (cells := 99) (slots := 2130) (Q := Q) (n := 1) (ci := 9) hx hb hml hown hts hK hD hro (kX9_many l D ad cA A am_lays_ok) ⟨wx_1114, wx_64, wx_1111, by decide +kernel⟩ wx_1112 wx_1113 rfl (by decide) rfl rfl ⟨Nat.le_of_ble_eq_true rfl, Nat.le_of_ble_eq_true rfl⟩ ⟨Nat.le_refl _, Nat.le_refl _⟩ 1136 ls [.int (xs (i + 1)), .ref 77, .int x] h1 H1 locs1 (some (.int x), [.int x], h2) (fun z => absurd z (by simp)) (fun _ => dL_law_1136) q9 hl.1 hP1 hS1 (fun H2 locs2 hP2 hS2 => ?_)
  refine W.eq (g2 := F0 m 1139 ls [.int x, .int x]) rfl ?_
  exact lv_icmp_eq (tgt := 1144) hx hb dL_law_1139 (by decide) (fun _ => kk h2 H2 locs2 r2 hP2 hS2) (fun hn => absurd rfl hn)
end LAWC
