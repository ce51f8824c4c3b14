/-! the classes as the tables have them; the static tables -/
theorem lw_known {args : Array Value} {s : State} (hts : ∀ w ∈ am_big, w.before args s = true) (ci : Nat) : ∃ d : ClassId × (Nat → Nat), ∀ q, vwCl[ci]? = some q → u_Kn s q.1 q.2.1 q.2.2 d.1 d.2 := by
  by_cases hlt : ci < 10
  · rcases (show ci = 0 ∨ ci = 1 ∨ ci = 2 ∨ ci = 3 ∨ ci = 4 ∨ ci = 5 ∨ ci = 6 ∨ ci = 7 ∨ ci = 8 ∨ ci = 9 by omega) with rfl | rfl | rfl | rfl | rfl | rfl | rfl | rfl | rfl | rfl
    · obtain ⟨a, b, k⟩ := u_known hts am_ly0 (hts _ wx_168)
      exact ⟨(a, b), fun q hq => by cases hq; exact k⟩
    · obtain ⟨a, b, k⟩ := u_known hts am_ly1 (hts _ wx_77)
      exact ⟨(a, b), fun q hq => by cases hq; exact k⟩
    · obtain ⟨a, b, k⟩ := u_known hts am_ly2 (hts _ wx_248)
      exact ⟨(a, b), fun q hq => by cases hq; exact k⟩
    · obtain ⟨a, b, k⟩ := u_known hts am_ly3 (hts _ wx_294)
      exact ⟨(a, b), fun q hq => by cases hq; exact k⟩
    · obtain ⟨a, b, k⟩ := u_known hts am_ly4 (hts _ wx_229)
      exact ⟨(a, b), fun q hq => by cases hq; exact k⟩
    · obtain ⟨a, b, k⟩ := u_known hts am_ly5 (hts _ wx_132)
      exact ⟨(a, b), fun q hq => by cases hq; exact k⟩
    · obtain ⟨a, b, k⟩ := u_known hts am_ly6 (hts _ wx_174)
      exact ⟨(a, b), fun q hq => by cases hq; exact k⟩
    · obtain ⟨a, b, k⟩ := u_known hts am_ly7 (hts _ wx_109)
      exact ⟨(a, b), fun q hq => by cases hq; exact k⟩
    · obtain ⟨a, b, k⟩ := u_known hts am_ly8 (hts _ wx_69)
      exact ⟨(a, b), fun q hq => by cases hq; exact k⟩
    · obtain ⟨a, b, k⟩ := u_known hts am_ly9 (hts _ wx_719)
      exact ⟨(a, b), fun q hq => by cases hq; exact k⟩
  · exact ⟨(0, fun _ => 0), fun q hq => by
      rw [List.getElem?_eq_none (by show 10 ≤ ci; omega)] at hq
      cases hq⟩
theorem lw_big {args : Array Value} {s : State} (hts : ∀ w ∈ lw_tbl, w.before args s = true) : ∀ w ∈ am_big, w.before args s = true := fun w hw => hts w (List.mem_filter.mp hw).1
theorem lw_arr {args : Array Value} {s : State} {ty : FieldType} (h : (Cond.arrayClass ty).before args s = true) : ∃ c, ArrOfT s c ty ∧ s.vm.findClass ("[" ++ ty.toString) = some c := by
  obtain ⟨c, k, comp, h1, h2, h3⟩ := Cond.arrayClass_spec h
  exact ⟨c, fun n z => ⟨fun k h => (by cases h), k, h2, comp, h3⟩, h1⟩
theorem lw_ovr {args : Array Value} {s : State} {C : String} (h : (Cond.arrayOver (.object C)).before args s = true) : ∃ c, ArrOfT s c (.object C) ∧ va_RA s c (.object C) := by
  obtain ⟨comp, c, k, h1, -, h3, h4, h5⟩ := Cond.arrayOver_spec h
  exact ⟨c, fun n z => ⟨fun k h => (by cases h), k, h3, comp, h4⟩, k, comp, h3, h4, h1, h5⟩
theorem lw_K {args : Array Value} {s : State} (hts : ∀ w ∈ lw_tbl, w.before args s = true) : ∃ (D : va_G) (cz : Nat → ClassId), ct_K D cz s := by
  have hb := lw_big hts
  obtain ⟨c0, a0, b0⟩ := lw_arr (hb _ wa_int)
  obtain ⟨c1, a1, b1⟩ := lw_arr (hb _ wa_long)
  obtain ⟨c2, a2, b2⟩ := lw_arr (hb _ wa_bool)
  have o0 : (Cond.arrayOver (.object "StarPlates$Dots")).before args s = true := hts _ (List.mem_of_getElem? (i := 106) (by decide +kernel))
  obtain ⟨c3, a3, b3⟩ := lw_ovr o0
  have o1 : (Cond.arrayOver (.object "StarPlates$Tray")).before args s = true := hts _ (List.mem_of_getElem? (i := 108) (by decide +kernel))
  obtain ⟨c4, a4, b4⟩ := lw_ovr o1
  have o2 : (Cond.arrayOver (.object "StarPlates$Pairing")).before args s = true := hts _ (List.mem_of_getElem? (i := 228) (by decide +kernel))
  obtain ⟨c5, a5, b5⟩ := lw_ovr o2
  refine ⟨(fun ci => (Classical.choose (lw_known hb ci)).1, fun ci => (Classical.choose (lw_known hb ci)).2), fun k => ([c0, c1, c2, c3, c4, c5] : List ClassId).getD k c0, ⟨fun ci q hq => Classical.choose_spec (lw_known hb ci) q hq, fun k q hq => ?_⟩, ⟨va_Nw.of rfl (hts _ (List.mem_of_getElem? (i := 78) (by decide +kernel))), va_Nw.of rfl (hts _ (List.mem_of_getElem? (i := 110) (by decide +kernel))), va_Nw.of rfl (hts _ (List.mem_of_getElem? (i := 133) (by decide +kernel))), va_Nw.of rfl (hts _ (List.mem_of_getElem? (i := 169) (by decide +kernel))), va_Nw.of rfl (hts _ (List.mem_of_getElem? (i := 175) (by decide +kernel))), va_Nw.of rfl (hts _ (List.mem_of_getElem? (i := 180) (by decide +kernel))), va_Nw.of rfl (hts _ (List.mem_of_getElem? (i := 230) (by decide +kernel))), va_Nw.of rfl (hts _ (List.mem_of_getElem? (i := 249) (by decide +kernel))), va_Nw.of rfl (hts _ (List.mem_of_getElem? (i := 295) (by decide +kernel)))⟩, va_AO.of o0, va_AO.of o1, va_AO.of o2⟩
  have hlt : k < 6 := (List.getElem?_eq_some_iff.mp hq).1
  rcases (show k = 0 ∨ k = 1 ∨ k = 2 ∨ k = 3 ∨ k = 4 ∨ k = 5 by omega) with rfl | rfl | rfl | rfl | rfl | rfl
  · cases hq; exact ⟨a0, b0⟩
  · cases hq; exact ⟨a1, b1⟩
  · cases hq; exact ⟨a2, b2⟩
  · cases hq; exact ⟨a3, b3⟩
  · cases hq; exact ⟨a4, b4⟩
  · cases hq; exact ⟨a5, b5⟩
theorem lw_ro {args : Array Value} {s : State} (hts : ∀ w ∈ lw_tbl, w.before args s = true) (hgv : (Jvm.Cond.and given_1 narrow_1).before args s = true) {A : Nat → Prop} (hA : ∀ a : Nat, a < s.heap.size → ¬ A a) : ∃ a b : Nat, va_T .int a 4 (fun j => .int (am_rc 99 j)) A s s.heap ∧ va_T .int b 4 (fun j => .int (am_rc 100 j)) A s s.heap ∧ va_Z "StarPlates" "LEAST_SETTING" "[I" (.ref a) A s s.heap ∧ va_Z "StarPlates" "GREATEST_SETTING" "[I" (.ref b) A s s.heap := by
  have hs := flat_of_before _ hgv
  have a1 : (Cond.arrayOf (Term.static "StarPlates" "LEAST_SETTING" "[I") .int).before args s = true := hs _ (by decide +kernel)
  have a2 : (Cond.eq (Term.length (Term.static "StarPlates" "LEAST_SETTING" "[I")) (.int 4)).before args s = true := hs _ (by decide +kernel)
  have ae0 : (Cond.eq (Term.elem (Term.static "StarPlates" "LEAST_SETTING" "[I") (.int 0)) (.int 0)).before args s = true := hs _ (by decide +kernel)
  have ae1 : (Cond.eq (Term.elem (Term.static "StarPlates" "LEAST_SETTING" "[I") (.int 1)) (.int 0)).before args s = true := hs _ (by decide +kernel)
  have ae2 : (Cond.eq (Term.elem (Term.static "StarPlates" "LEAST_SETTING" "[I") (.int 2)) (.int 0)).before args s = true := hs _ (by decide +kernel)
  have ae3 : (Cond.eq (Term.elem (Term.static "StarPlates" "LEAST_SETTING" "[I") (.int 3)) (.int 1)).before args s = true := hs _ (by decide +kernel)
  obtain ⟨a, at', aT⟩ := va_Tof (A := A) (N := 4) (f := fun j => .int (am_rc 99 j)) (by decide) a1 (va_eqt a2) (fun j hj => by
    rcases (show j = 0 ∨ j = 1 ∨ j = 2 ∨ j = 3 by omega) with rfl | rfl | rfl | rfl
    · exact va_eqt ae0
    · exact va_eqt ae1
    · exact va_eqt ae2
    · exact va_eqt ae3) hA
  have b1 : (Cond.arrayOf (Term.static "StarPlates" "GREATEST_SETTING" "[I") .int).before args s = true := hs _ (by decide +kernel)
  have b2 : (Cond.eq (Term.length (Term.static "StarPlates" "GREATEST_SETTING" "[I")) (.int 4)).before args s = true := hs _ (by decide +kernel)
  have be0 : (Cond.eq (Term.elem (Term.static "StarPlates" "GREATEST_SETTING" "[I") (.int 0)) (.int 50)).before args s = true := hs _ (by decide +kernel)
  have be1 : (Cond.eq (Term.elem (Term.static "StarPlates" "GREATEST_SETTING" "[I") (.int 1)) (.int 1000000)).before args s = true := hs _ (by decide +kernel)
  have be2 : (Cond.eq (Term.elem (Term.static "StarPlates" "GREATEST_SETTING" "[I") (.int 2)) (.int 10000000)).before args s = true := hs _ (by decide +kernel)
  have be3 : (Cond.eq (Term.elem (Term.static "StarPlates" "GREATEST_SETTING" "[I") (.int 3)) (.int 255)).before args s = true := hs _ (by decide +kernel)
  obtain ⟨b, bt, bT⟩ := va_Tof (A := A) (N := 4) (f := fun j => .int (am_rc 100 j)) (by decide) b1 (va_eqt b2) (fun j hj => by
    rcases (show j = 0 ∨ j = 1 ∨ j = 2 ∨ j = 3 by omega) with rfl | rfl | rfl | rfl
    · exact va_eqt be0
    · exact va_eqt be1
    · exact va_eqt be2
    · exact va_eqt be3) hA
  exact ⟨a, b, aT, bT, va_Zref (hts _ (List.mem_of_getElem? (i := 456) (by decide +kernel))) (hts _ (List.mem_filter.mp wx_55).1) at' hA, va_Zref (hts _ (List.mem_of_getElem? (i := 458) (by decide +kernel))) (hts _ (List.mem_filter.mp wx_55).1) bt hA⟩
