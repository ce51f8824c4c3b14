/-! the law's loop -/
section LAWL
variable {p : Program} {l : Launch} {e : Env} {s : State} {m : MethodId} {below : List Frame} {meth : Method} {c : Code} {b L : Nat} {xs : Nat → Int32} {D : va_G} {ad : Nat → Nat} {cA : Nat → ClassId} {A : Nat → Prop} {Q : State → Prop}
theorem lw_next (C : lx p s m c b L xs D ad cA A) {H : Heap} {locs : List Loc} {ls : Array Slot} {i : Nat} (hi : i + 6 ≤ L) (hl : lv_has ls 4 (lx_l ad b i)) (kk : ∀ ls2, lv_has ls2 4 (lx_l ad b (i + 6)) → W p l e room_1 s m #[Value.ref b] below meth c H locs 99 2130 Q (F0 m 18 ls2 [])) : W p l e room_1 s m #[Value.ref b] below meth c H locs 99 2130 Q (F0 m 1144 ls []) := by
  obtain ⟨hx, hb, hml, hown, hts, hK, hD, hro, hX, hbl, hbA, hL⟩ := C
  refine lv_iinc (v := nI (i + 6)) (k := 0) (lv' := lx_l ad b (i + 6)) hx hb dL_law_1144 hl rfl ?_ (by decide) rfl (fun ls2 hl2 => ?_)
  · have e : Int32.ofInt 6 = nI 6 := rfl
    rw [e]
    exact nI_add i 6
  · exact lv_goto (tgt := 18) hx hb dL_law_1147 (by decide) (kk ls2 hl2)
set_option maxHeartbeats 4000000 in
theorem lw_body (C : lx p s m c b L xs D ad cA A) {h : am_H} {H : Heap} {locs : List Loc} {ls : Array Slot} {i : Nat} (hR : Rl h) (hi : i + 6 ≤ L) (hP : va_P D vwCl (am_ws ad cA h) H) (hS : va_S A s.heap H locs) (hl : lv_has ls 4 (lx_l ad b i)) (kk : ∀ (h2 : am_H) (H2 : Heap) (locs2 : List Loc), Rl h2 → va_P D vwCl (am_ws ad cA h2) H2 → va_S A s.heap H2 locs2 → W p l e room_1 s m #[Value.ref b] below meth c H2 locs2 99 2130 Q (F0 m 1144 ls [])) : W p l e room_1 s m #[Value.ref b] below meth c H locs 99 2130 Q (F0 m 27 ls []) := by
  have C0 := C
  obtain ⟨hx, hb, hml, hown, hts, hK, hD, hro, hX, hbl, hbA, hL⟩ := C0
  refine lv_aload_n hx hb dL_law_27 rfl (lv_at hl 3 rfl) ?_
  refine lv_iload_n hx hb dL_law_28 rfl (lv_at hl 0 rfl) ?_
  have hlt : i < L := by omega
  have hc : (nI i).toNatClampNeg = i := am_clp hlt (by omega)
  refine va_sld hx hb hX hbl hbA hS (i := nI i) ?_ dL_law_29 ?_
  · unfold vp_in
    rw [hc]
    intro z
    rcases z with z | z
    · rw [Int32.lt_iff_toInt_lt, nI_toInt (by omega)] at z
      have : (0 : Int32).toInt = 0 := by decide
      omega
    · omega
  refine lv_bipush (v := 31) hx hb dL_law_30 (by decide) ?_
  refine lv_iand hx hb dL_law_32 ?_
  generalize xs (nI i).toNatClampNeg &&& 31 = x
  rcases pk_ix x (n := 28) (by omega) with z | z | ⟨q, hq, rfl⟩
  · exact lv_tableOut (tgt := 1144) hx hb dL_law_33 (Or.inl (by simpa using Int32.lt_iff_toInt_lt.mp z)) (by decide) (kk h H locs hR hP hS)
  · exact lv_tableOut (tgt := 1144) hx hb dL_law_33 (Or.inr (by have := Int32.le_iff_toInt_le.mp z; rw [nI_toInt (by omega)] at this; omega)) (by decide) (kk h H locs hR hP hS)
  · rcases (show q = 0 ∨ q = 1 ∨ q = 2 ∨ q = 3 ∨ q = 4 ∨ q = 5 ∨ q = 6 ∨ q = 7 ∨ q = 8 ∨ q = 9 ∨ q = 10 ∨ q = 11 ∨ q = 12 ∨ q = 13 ∨ q = 14 ∨ q = 15 ∨ q = 16 ∨ q = 17 ∨ q = 18 ∨ q = 19 ∨ q = 20 ∨ q = 21 ∨ q = 22 ∨ q = 23 ∨ q = 24 ∨ q = 25 ∨ q = 26 ∨ q = 27 by omega) with rfl | rfl | rfl | rfl | rfl | rfl | rfl | rfl | rfl | rfl | rfl | rfl | rfl | rfl | rfl | rfl | rfl | rfl | rfl | rfl | rfl | rfl | rfl | rfl | rfl | rfl | rfl | rfl
    · exact lv_tableIn (tgt := 160) (off := 127) hx hb dL_law_33 (by decide) (by decide) (by decide) (by decide) (lc_0 C hR hi hP hS hl kk)
    · exact lv_tableIn (tgt := 203) (off := 170) hx hb dL_law_33 (by decide) (by decide) (by decide) (by decide) (lc_1 C hR hi hP hS hl kk)
    · exact lv_tableIn (tgt := 216) (off := 183) hx hb dL_law_33 (by decide) (by decide) (by decide) (by decide) (lc_2 C hR hi hP hS hl kk)
    · exact lv_tableIn (tgt := 269) (off := 236) hx hb dL_law_33 (by decide) (by decide) (by decide) (by decide) (lc_3 C hR hi hP hS hl kk)
    · exact lv_tableIn (tgt := 292) (off := 259) hx hb dL_law_33 (by decide) (by decide) (by decide) (by decide) (lc_4 C hR hi hP hS hl kk)
    · exact lv_tableIn (tgt := 325) (off := 292) hx hb dL_law_33 (by decide) (by decide) (by decide) (by decide) (lc_5 C hR hi hP hS hl kk)
    · exact lv_tableIn (tgt := 368) (off := 335) hx hb dL_law_33 (by decide) (by decide) (by decide) (by decide) (lc_6 C hR hi hP hS hl kk)
    · exact lv_tableIn (tgt := 411) (off := 378) hx hb dL_law_33 (by decide) (by decide) (by decide) (by decide) (lc_7 C hR hi hP hS hl kk)
    · exact lv_tableIn (tgt := 434) (off := 401) hx hb dL_law_33 (by decide) (by decide) (by decide) (by decide) (lc_8 C hR hi hP hS hl kk)
    · exact lv_tableIn (tgt := 457) (off := 424) hx hb dL_law_33 (by decide) (by decide) (by decide) (by decide) (lc_9 C hR hi hP hS hl kk)
    · exact lv_tableIn (tgt := 490) (off := 457) hx hb dL_law_33 (by decide) (by decide) (by decide) (by decide) (lc_10 C hR hi hP hS hl kk)
    · exact lv_tableIn (tgt := 553) (off := 520) hx hb dL_law_33 (by decide) (by decide) (by decide) (by decide) (lc_11 C hR hi hP hS hl kk)
    · exact lv_tableIn (tgt := 576) (off := 543) hx hb dL_law_33 (by decide) (by decide) (by decide) (by decide) (lc_12 C hR hi hP hS hl kk)
    · exact lv_tableIn (tgt := 619) (off := 586) hx hb dL_law_33 (by decide) (by decide) (by decide) (by decide) (lc_13 C hR hi hP hS hl kk)
    · exact lv_tableIn (tgt := 678) (off := 645) hx hb dL_law_33 (by decide) (by decide) (by decide) (by decide) (lc_14 C hR hi hP hS hl kk)
    · exact lv_tableIn (tgt := 722) (off := 689) hx hb dL_law_33 (by decide) (by decide) (by decide) (by decide) (lc_15 C hR hi hP hS hl kk)
    · exact lv_tableIn (tgt := 766) (off := 733) hx hb dL_law_33 (by decide) (by decide) (by decide) (by decide) (lc_16 C hR hi hP hS hl kk)
    · exact lv_tableIn (tgt := 800) (off := 767) hx hb dL_law_33 (by decide) (by decide) (by decide) (by decide) (lc_17 C hR hi hP hS hl kk)
    · exact lv_tableIn (tgt := 833) (off := 800) hx hb dL_law_33 (by decide) (by decide) (by decide) (by decide) (lc_18 C hR hi hP hS hl kk)
    · exact lv_tableIn (tgt := 846) (off := 813) hx hb dL_law_33 (by decide) (by decide) (by decide) (by decide) (lc_19 C hR hi hP hS hl kk)
    · exact lv_tableIn (tgt := 880) (off := 847) hx hb dL_law_33 (by decide) (by decide) (by decide) (by decide) (lc_20 C hR hi hP hS hl kk)
    · exact lv_tableIn (tgt := 913) (off := 880) hx hb dL_law_33 (by decide) (by decide) (by decide) (by decide) (lc_21 C hR hi hP hS hl kk)
    · exact lv_tableIn (tgt := 926) (off := 893) hx hb dL_law_33 (by decide) (by decide) (by decide) (by decide) (lc_22 C hR hi hP hS hl kk)
    · exact lv_tableIn (tgt := 959) (off := 926) hx hb dL_law_33 (by decide) (by decide) (by decide) (by decide) (lc_23 C hR hi hP hS hl kk)
    · exact lv_tableIn (tgt := 992) (off := 959) hx hb dL_law_33 (by decide) (by decide) (by decide) (by decide) (lc_24 C hR hi hP hS hl kk)
    · exact lv_tableIn (tgt := 1035) (off := 1002) hx hb dL_law_33 (by decide) (by decide) (by decide) (by decide) (lc_25 C hR hi hP hS hl kk)
    · exact lv_tableIn (tgt := 1088) (off := 1055) hx hb dL_law_33 (by decide) (by decide) (by decide) (by decide) (lc_26 C hR hi hP hS hl kk)
    · exact lv_tableIn (tgt := 1121) (off := 1088) hx hb dL_law_33 (by decide) (by decide) (by decide) (by decide) (lc_27 C hR hi hP hS hl kk)
theorem lw_loop (C : lx p s m c b L xs D ad cA A) (fin : ∀ (H : Heap) (locs : List Loc) (ls : Array Slot), va_S A s.heap H locs → W p l e room_1 s m #[Value.ref b] below meth c H locs 99 2130 Q (F0 m 1150 ls [])) (d : Nat) : ∀ i : Nat, i ≤ L → L ≤ i + d → ∀ (h : am_H) (H : Heap) (locs : List Loc) (ls : Array Slot), Rl h → va_P D vwCl (am_ws ad cA h) H → va_S A s.heap H locs → lv_has ls 4 (lx_l ad b i) → W p l e room_1 s m #[Value.ref b] below meth c H locs 99 2130 Q (F0 m 18 ls []) := by
  have C0 := C
  obtain ⟨hx, hb, hml, hown, hts, hK, hD, hro, hX, hbl, hbA, hL⟩ := C0
  have head : ∀ i : Nat, i ≤ L → ∀ (H : Heap) (locs : List Loc) (ls : Array Slot), va_S A s.heap H locs → lv_has ls 4 (lx_l ad b i) → (i + 6 ≤ L → W p l e room_1 s m #[Value.ref b] below meth c H locs 99 2130 Q (F0 m 27 ls [])) → W p l e room_1 s m #[Value.ref b] below meth c H locs 99 2130 Q (F0 m 18 ls []) := by
    intro i hi H locs ls hS hl go
    refine lv_iload_n hx hb dL_law_18 rfl (lv_at hl 0 rfl) ?_
    refine lv_aload_n hx hb dL_law_19 rfl (lv_at hl 3 rfl) ?_
    refine va_slen hx hb hX hbl hbA hS dL_law_20 ?_
    refine lv_bipush (v := 6) hx hb dL_law_21 (by decide) ?_
    refine lv_isub hx hb dL_law_23 ?_
    have e6 : (6 : Int32).toInt = 6 := by decide
    have eL : (Int32.ofNat L).toInt = L := nI_toInt (n := L) (by omega)
    have e : (Int32.ofNat L - 6).toInt = L - 6 := by rw [i32_sub' (by rw [eL, e6]; omega) (by rw [eL, e6]; omega), eL, e6]
    refine lv_icmp_gt (tgt := 1150) hx hb dL_law_24 (by decide) (fun _ => fin H locs ls hS) (fun hn => go ?_)
    rw [Int32.lt_iff_toInt_lt, e, nI_toInt (by omega)] at hn
    omega
  induction d with
  | zero =>
    intro i hi hd h H locs ls hR hP hS hl
    exact head i hi H locs ls hS hl (fun h6 => by omega)
  | succ d ih =>
    intro i hi hd h H locs ls hR hP hS hl
    exact head i hi H locs ls hS hl (fun h6 => lw_body C hR h6 hP hS hl (fun h2 H2 locs2 hR2 hP2 hS2 => lw_next C h6 hl (fun ls2 hl2 => ih (i + 6) (by omega) (by omega) h2 H2 locs2 ls2 hR2 hP2 hS2 hl2)))
end LAWL
