/-! contracts of the constructors of the nested classes -/
abbrev fz1 : List Value := [.null, .null, .null, .int 0]
abbrev ff1 (cz : Nat → ClassId) (f : Nat → Nat) : va_W := [((f 0), .inr (1, [.ref (f 1), .ref (f 2), .ref (f 3), .int 0])), ((f 1), .inl (cz 0, 8, .inl fun _ => 0)), ((f 2), .inl (cz 0, 8, .inl fun _ => 0)), ((f 3), .inl (cz 0, 8, .inl fun _ => 0))]
set_option maxHeartbeats 4000000 in
set_option maxRecDepth 100000 in
theorem ct_X1 (l : Launch) (D : va_G) (cz : Nat → ClassId) : ct_Met l D cz yX1_init cX1_init 1 { frames := 1, cells := 3, slots := 24, locals := 12 } 3 24 1 fz1 (ff1 cz) := by
  intro h0 sz
  refine Met.ofW (cc := cX1_init) (maxL := 1) (ret := none) (by decide) rfl ?_
  intro p e s m args below meth c s₁ B hml hv
  obtain ⟨rfl, hsz, hP, hK, hD0⟩ := hv
  have hx := B.exec
  have hb := B.bytes
  have hr := B.returns
  have hts0 := atoms_spec (ws := Cond.code yX1_init cX1_init 1 none :: am_big) B.pre
  have hts : ∀ w ∈ am_big, w.before _ s = true := fun w hw => hts0 w (List.mem_cons_of_mem _ hw)
  have hown : s.vm.findClass RX1 = some m.cls := findClass_of_methodNamed B.named
  have hlocks := B.notSynchronized
  have hin : meth.name = "<init>" := (name_of_methodNamed B.named B.method).1
  subst hsz
  have hD := hD0.self (sz := s.heap.size)
  generalize hAe : va_A [(h0, .inr (1, fz1))] s.heap.size = A at hD ⊢
  have hA : ∀ q : Nat, s.heap.size ≤ q → A q := fun q h => by rw [← hAe]; exact Or.inr h
  have hS : va_S A s.heap s.heap [] := va_S.rf
  have hP : va_P D vwCl [(h0, .inr (1, [.null, .null, .null, .int 0]))] s.heap := hP
  have hl := lv_entry ([.ref h0]) (n := 1) (Nat.le_of_ble_eq_true rfl)
  rw [lg_entry_eq]
  generalize (lg_sl ([.ref h0]) ++ List.replicate (1 - (lg_sl ([.ref h0])).length) Slot.unset).toArray = ls at hl ⊢
  have hl : lv_has ls 1 [(0, .ref h0)] := hl
  refine lv_aload_n hx hb dX1_init_0 rfl (lv_at hl 0 rfl) ?_
  refine W.objInit hx hb hown (hts _ wx_81) (hts _ wx_74) (hts _ wx_75) rfl (by rw [hml]; exact hl.1) rfl dX1_init_1 (Nat.le_of_ble_eq_true rfl) (Nat.le_of_ble_eq_true rfl) ?_
  refine W.eq (g2 := F0 m 4 ls []) rfl ?_
  refine lv_aload_n hx hb dX1_init_4 rfl (lv_at hl 0 rfl) ?_
  refine lv_bipush (v := 8) hx hb dX1_init_5 (by decide) ?_
  refine ct_ai hx hb hts hK hP hD hS hA (n := 8) (N' := 8) (by decide) (by decide) (Nat.le_of_ble_eq_true rfl) (Nat.le_of_ble_eq_true rfl) (Nat.le_of_ble_eq_true rfl) dX1_init_7 (fun q7 H hP hD hS => ?_)
  have hP : va_P D vwCl [(h0, .inr (1, [.null, .null, .null, .int 0])), (q7, .inl (cz 0, 8, .inl fun _ => 0))] H := hP
  have hD : va_D A [(h0, .inr (1, [.null, .null, .null, .int 0])), (q7, .inl (cz 0, 8, .inl fun _ => 0))] := hD
  refine ct_pf (ci := 1) hx hb hts am_ly1 tyX1 tyX1_ok nmX1 hown hin hK hP hD hS rfl 0 (by decide) wx_82 rfl rfl rfl (Nat.le_of_ble_eq_true rfl) dX1_init_9 (fun H locs hP hD hS => ?_)
  have hP : va_P D vwCl [(h0, .inr (1, [.ref q7, .null, .null, .int 0])), (q7, .inl (cz 0, 8, .inl fun _ => 0))] H := hP
  have hD : va_D A [(h0, .inr (1, [.ref q7, .null, .null, .int 0])), (q7, .inl (cz 0, 8, .inl fun _ => 0))] := hD
  refine lv_aload_n hx hb dX1_init_12 rfl (lv_at hl 0 rfl) ?_
  refine lv_bipush (v := 8) hx hb dX1_init_13 (by decide) ?_
  refine ct_ai hx hb hts hK hP hD hS hA (n := 8) (N' := 8) (by decide) (by decide) (Nat.le_of_ble_eq_true rfl) (Nat.le_of_ble_eq_true rfl) (Nat.le_of_ble_eq_true rfl) dX1_init_15 (fun q15 H hP hD hS => ?_)
  have hP : va_P D vwCl [(h0, .inr (1, [.ref q7, .null, .null, .int 0])), (q7, .inl (cz 0, 8, .inl fun _ => 0)), (q15, .inl (cz 0, 8, .inl fun _ => 0))] H := hP
  have hD : va_D A [(h0, .inr (1, [.ref q7, .null, .null, .int 0])), (q7, .inl (cz 0, 8, .inl fun _ => 0)), (q15, .inl (cz 0, 8, .inl fun _ => 0))] := hD
  refine ct_pf (ci := 1) hx hb hts am_ly1 tyX1 tyX1_ok nmX1 hown hin hK hP hD hS rfl 1 (by decide) wx_86 rfl rfl rfl (Nat.le_of_ble_eq_true rfl) dX1_init_17 (fun H locs hP hD hS => ?_)
  have hP : va_P D vwCl [(h0, .inr (1, [.ref q7, .ref q15, .null, .int 0])), (q7, .inl (cz 0, 8, .inl fun _ => 0)), (q15, .inl (cz 0, 8, .inl fun _ => 0))] H := hP
  have hD : va_D A [(h0, .inr (1, [.ref q7, .ref q15, .null, .int 0])), (q7, .inl (cz 0, 8, .inl fun _ => 0)), (q15, .inl (cz 0, 8, .inl fun _ => 0))] := hD
  refine lv_aload_n hx hb dX1_init_20 rfl (lv_at hl 0 rfl) ?_
  refine lv_bipush (v := 8) hx hb dX1_init_21 (by decide) ?_
  refine ct_ai hx hb hts hK hP hD hS hA (n := 8) (N' := 8) (by decide) (by decide) (Nat.le_of_ble_eq_true rfl) (Nat.le_of_ble_eq_true rfl) (Nat.le_of_ble_eq_true rfl) dX1_init_23 (fun q23 H hP hD hS => ?_)
  have hP : va_P D vwCl [(h0, .inr (1, [.ref q7, .ref q15, .null, .int 0])), (q7, .inl (cz 0, 8, .inl fun _ => 0)), (q15, .inl (cz 0, 8, .inl fun _ => 0)), (q23, .inl (cz 0, 8, .inl fun _ => 0))] H := hP
  have hD : va_D A [(h0, .inr (1, [.ref q7, .ref q15, .null, .int 0])), (q7, .inl (cz 0, 8, .inl fun _ => 0)), (q15, .inl (cz 0, 8, .inl fun _ => 0)), (q23, .inl (cz 0, 8, .inl fun _ => 0))] := hD
  refine ct_pf (ci := 1) hx hb hts am_ly1 tyX1 tyX1_ok nmX1 hown hin hK hP hD hS rfl 2 (by decide) wx_90 rfl rfl rfl (Nat.le_of_ble_eq_true rfl) dX1_init_25 (fun H locs hP hD hS => ?_)
  have hP : va_P D vwCl [(h0, .inr (1, [.ref q7, .ref q15, .ref q23, .int 0])), (q7, .inl (cz 0, 8, .inl fun _ => 0)), (q15, .inl (cz 0, 8, .inl fun _ => 0)), (q23, .inl (cz 0, 8, .inl fun _ => 0))] H := hP
  have hD : va_D A [(h0, .inr (1, [.ref q7, .ref q15, .ref q23, .int 0])), (q7, .inl (cz 0, 8, .inl fun _ => 0)), (q15, .inl (cz 0, 8, .inl fun _ => 0)), (q23, .inl (cz 0, 8, .inl fun _ => 0))] := hD
  refine lv_aload_n hx hb dX1_init_28 rfl (lv_at hl 0 rfl) ?_
  refine lv_iconst (v := 0) hx hb dX1_init_29 (by decide) ?_
  refine ct_pf (ci := 1) hx hb hts am_ly1 tyX1 tyX1_ok nmX1 hown hin hK hP hD hS rfl 3 (by decide) wx_92 rfl rfl rfl (Nat.le_of_ble_eq_true rfl) dX1_init_30 (fun H locs hP hD hS => ?_)
  have hP : va_P D vwCl [(h0, .inr (1, [.ref q7, .ref q15, .ref q23, .int 0])), (q7, .inl (cz 0, 8, .inl fun _ => 0)), (q15, .inl (cz 0, 8, .inl fun _ => 0)), (q23, .inl (cz 0, 8, .inl fun _ => 0))] H := hP
  have hD : va_D A [(h0, .inr (1, [.ref q7, .ref q15, .ref q23, .int 0])), (q7, .inl (cz 0, 8, .inl fun _ => 0)), (q15, .inl (cz 0, 8, .inl fun _ => 0)), (q23, .inl (cz 0, 8, .inl fun _ => 0))] := hD
  refine W.widen (k := 3) (n := 24) (Nat.le_of_ble_eq_true rfl) (Nat.le_of_ble_eq_true rfl) ?_
  exact W.vret hx hb hr (fun t ht hW => ⟨⟨(fun k => ([h0, q7, q15, q23] : List Nat).getD k 0), rfl, trivial, rfl, by rw [ht]; exact hP, hD⟩, hS.F ht⟩) hS.2.2 dX1_init_33
abbrev fz7 : List Value := [.null, .int 0, .int 0, .int 0]
abbrev ff7 (cz : Nat → ClassId) (f : Nat → Nat) : va_W := [((f 0), .inr (7, [.ref (f 1), .int 0, .int 2, .int 0])), ((f 1), .inl (cz 0, 8, .inl fun _ => 0))]
set_option maxHeartbeats 4000000 in
set_option maxRecDepth 100000 in
theorem ct_X7 (l : Launch) (D : va_G) (cz : Nat → ClassId) : ct_Met l D cz yX7_init cX7_init 1 { frames := 1, cells := 1, slots := 8, locals := 12 } 1 8 7 fz7 (ff7 cz) := by
  intro h0 sz
  refine Met.ofW (cc := cX7_init) (maxL := 1) (ret := none) (by decide) rfl ?_
  intro p e s m args below meth c s₁ B hml hv
  obtain ⟨rfl, hsz, hP, hK, hD0⟩ := hv
  have hx := B.exec
  have hb := B.bytes
  have hr := B.returns
  have hts0 := atoms_spec (ws := Cond.code yX7_init cX7_init 1 none :: am_big) B.pre
  have hts : ∀ w ∈ am_big, w.before _ s = true := fun w hw => hts0 w (List.mem_cons_of_mem _ hw)
  have hown : s.vm.findClass RX7 = some m.cls := findClass_of_methodNamed B.named
  have hlocks := B.notSynchronized
  have hin : meth.name = "<init>" := (name_of_methodNamed B.named B.method).1
  subst hsz
  have hD := hD0.self (sz := s.heap.size)
  generalize hAe : va_A [(h0, .inr (7, fz7))] s.heap.size = A at hD ⊢
  have hA : ∀ q : Nat, s.heap.size ≤ q → A q := fun q h => by rw [← hAe]; exact Or.inr h
  have hS : va_S A s.heap s.heap [] := va_S.rf
  have hP : va_P D vwCl [(h0, .inr (7, [.null, .int 0, .int 0, .int 0]))] s.heap := hP
  have hl := lv_entry ([.ref h0]) (n := 1) (Nat.le_of_ble_eq_true rfl)
  rw [lg_entry_eq]
  generalize (lg_sl ([.ref h0]) ++ List.replicate (1 - (lg_sl ([.ref h0])).length) Slot.unset).toArray = ls at hl ⊢
  have hl : lv_has ls 1 [(0, .ref h0)] := hl
  refine lv_aload_n hx hb dX7_init_0 rfl (lv_at hl 0 rfl) ?_
  refine W.objInit hx hb hown (hts _ wx_113) (hts _ wx_74) (hts _ wx_75) rfl (by rw [hml]; exact hl.1) rfl dX7_init_1 (Nat.le_of_ble_eq_true rfl) (Nat.le_of_ble_eq_true rfl) ?_
  refine W.eq (g2 := F0 m 4 ls []) rfl ?_
  refine lv_aload_n hx hb dX7_init_4 rfl (lv_at hl 0 rfl) ?_
  refine lv_bipush (v := 8) hx hb dX7_init_5 (by decide) ?_
  refine ct_ai hx hb hts hK hP hD hS hA (n := 8) (N' := 8) (by decide) (by decide) (Nat.le_of_ble_eq_true rfl) (Nat.le_of_ble_eq_true rfl) (Nat.le_of_ble_eq_true rfl) dX7_init_7 (fun q7 H hP hD hS => ?_)
  have hP : va_P D vwCl [(h0, .inr (7, [.null, .int 0, .int 0, .int 0])), (q7, .inl (cz 0, 8, .inl fun _ => 0))] H := hP
  have hD : va_D A [(h0, .inr (7, [.null, .int 0, .int 0, .int 0])), (q7, .inl (cz 0, 8, .inl fun _ => 0))] := hD
  refine ct_pf (ci := 7) hx hb hts am_ly7 tyX7 tyX7_ok nmX7 hown hin hK hP hD hS rfl 0 (by decide) wx_114 rfl rfl rfl (Nat.le_of_ble_eq_true rfl) dX7_init_9 (fun H locs hP hD hS => ?_)
  have hP : va_P D vwCl [(h0, .inr (7, [.ref q7, .int 0, .int 0, .int 0])), (q7, .inl (cz 0, 8, .inl fun _ => 0))] H := hP
  have hD : va_D A [(h0, .inr (7, [.ref q7, .int 0, .int 0, .int 0])), (q7, .inl (cz 0, 8, .inl fun _ => 0))] := hD
  refine lv_aload_n hx hb dX7_init_12 rfl (lv_at hl 0 rfl) ?_
  refine lv_iconst (v := 0) hx hb dX7_init_13 (by decide) ?_
  refine ct_pf (ci := 7) hx hb hts am_ly7 tyX7 tyX7_ok nmX7 hown hin hK hP hD hS rfl 1 (by decide) wx_116 rfl rfl rfl (Nat.le_of_ble_eq_true rfl) dX7_init_14 (fun H locs hP hD hS => ?_)
  have hP : va_P D vwCl [(h0, .inr (7, [.ref q7, .int 0, .int 0, .int 0])), (q7, .inl (cz 0, 8, .inl fun _ => 0))] H := hP
  have hD : va_D A [(h0, .inr (7, [.ref q7, .int 0, .int 0, .int 0])), (q7, .inl (cz 0, 8, .inl fun _ => 0))] := hD
  refine lv_aload_n hx hb dX7_init_17 rfl (lv_at hl 0 rfl) ?_
  refine lv_iconst (v := 2) hx hb dX7_init_18 (by decide) ?_
  refine ct_pf (ci := 7) hx hb hts am_ly7 tyX7 tyX7_ok nmX7 hown hin hK hP hD hS rfl 2 (by decide) wx_118 rfl rfl rfl (Nat.le_of_ble_eq_true rfl) dX7_init_19 (fun H locs hP hD hS => ?_)
  have hP : va_P D vwCl [(h0, .inr (7, [.ref q7, .int 0, .int 2, .int 0])), (q7, .inl (cz 0, 8, .inl fun _ => 0))] H := hP
  have hD : va_D A [(h0, .inr (7, [.ref q7, .int 0, .int 2, .int 0])), (q7, .inl (cz 0, 8, .inl fun _ => 0))] := hD
  refine lv_aload_n hx hb dX7_init_22 rfl (lv_at hl 0 rfl) ?_
  refine lv_iconst (v := 0) hx hb dX7_init_23 (by decide) ?_
  refine ct_pf (ci := 7) hx hb hts am_ly7 tyX7 tyX7_ok nmX7 hown hin hK hP hD hS rfl 3 (by decide) wx_119 rfl rfl rfl (Nat.le_of_ble_eq_true rfl) dX7_init_24 (fun H locs hP hD hS => ?_)
  have hP : va_P D vwCl [(h0, .inr (7, [.ref q7, .int 0, .int 2, .int 0])), (q7, .inl (cz 0, 8, .inl fun _ => 0))] H := hP
  have hD : va_D A [(h0, .inr (7, [.ref q7, .int 0, .int 2, .int 0])), (q7, .inl (cz 0, 8, .inl fun _ => 0))] := hD
  refine W.widen (k := 1) (n := 8) (Nat.le_of_ble_eq_true rfl) (Nat.le_of_ble_eq_true rfl) ?_
  exact W.vret hx hb hr (fun t ht hW => ⟨⟨(fun k => ([h0, q7] : List Nat).getD k 0), rfl, trivial, rfl, by rw [ht]; exact hP, hD⟩, hS.F ht⟩) hS.2.2 dX7_init_27
abbrev fz5 : List Value := [.null, .null, .int 0, .int 0, .int 0, .int 0]
abbrev ff5 (cz : Nat → ClassId) (f : Nat → Nat) : va_W := [((f 0), .inr (5, [.ref (f 1), .ref (f 2), .int 0, .int 0, .int 0, .int 0])), ((f 1), .inl (cz 0, 3, .inl fun _ => 0)), ((f 2), .inl (cz 1, 3, .inr (.inl fun _ => 0)))]
set_option maxHeartbeats 4000000 in
set_option maxRecDepth 100000 in
theorem ct_X5 (l : Launch) (D : va_G) (cz : Nat → ClassId) : ct_Met l D cz yX5_init cX5_init 1 { frames := 1, cells := 2, slots := 6, locals := 12 } 2 6 5 fz5 (ff5 cz) := by
  intro h0 sz
  refine Met.ofW (cc := cX5_init) (maxL := 1) (ret := none) (by decide) rfl ?_
  intro p e s m args below meth c s₁ B hml hv
  obtain ⟨rfl, hsz, hP, hK, hD0⟩ := hv
  have hx := B.exec
  have hb := B.bytes
  have hr := B.returns
  have hts0 := atoms_spec (ws := Cond.code yX5_init cX5_init 1 none :: am_big) B.pre
  have hts : ∀ w ∈ am_big, w.before _ s = true := fun w hw => hts0 w (List.mem_cons_of_mem _ hw)
  have hown : s.vm.findClass RX5 = some m.cls := findClass_of_methodNamed B.named
  have hlocks := B.notSynchronized
  have hin : meth.name = "<init>" := (name_of_methodNamed B.named B.method).1
  subst hsz
  have hD := hD0.self (sz := s.heap.size)
  generalize hAe : va_A [(h0, .inr (5, fz5))] s.heap.size = A at hD ⊢
  have hA : ∀ q : Nat, s.heap.size ≤ q → A q := fun q h => by rw [← hAe]; exact Or.inr h
  have hS : va_S A s.heap s.heap [] := va_S.rf
  have hP : va_P D vwCl [(h0, .inr (5, [.null, .null, .int 0, .int 0, .int 0, .int 0]))] s.heap := hP
  have hl := lv_entry ([.ref h0]) (n := 1) (Nat.le_of_ble_eq_true rfl)
  rw [lg_entry_eq]
  generalize (lg_sl ([.ref h0]) ++ List.replicate (1 - (lg_sl ([.ref h0])).length) Slot.unset).toArray = ls at hl ⊢
  have hl : lv_has ls 1 [(0, .ref h0)] := hl
  refine lv_aload_n hx hb dX5_init_0 rfl (lv_at hl 0 rfl) ?_
  refine W.objInit hx hb hown (hts _ wx_136) (hts _ wx_74) (hts _ wx_75) rfl (by rw [hml]; exact hl.1) rfl dX5_init_1 (Nat.le_of_ble_eq_true rfl) (Nat.le_of_ble_eq_true rfl) ?_
  refine W.eq (g2 := F0 m 4 ls []) rfl ?_
  refine lv_aload_n hx hb dX5_init_4 rfl (lv_at hl 0 rfl) ?_
  refine lv_iconst (v := 3) hx hb dX5_init_5 (by decide) ?_
  refine ct_ai hx hb hts hK hP hD hS hA (n := 3) (N' := 3) (by decide) (by decide) (Nat.le_of_ble_eq_true rfl) (Nat.le_of_ble_eq_true rfl) (Nat.le_of_ble_eq_true rfl) dX5_init_6 (fun q6 H hP hD hS => ?_)
  have hP : va_P D vwCl [(h0, .inr (5, [.null, .null, .int 0, .int 0, .int 0, .int 0])), (q6, .inl (cz 0, 3, .inl fun _ => 0))] H := hP
  have hD : va_D A [(h0, .inr (5, [.null, .null, .int 0, .int 0, .int 0, .int 0])), (q6, .inl (cz 0, 3, .inl fun _ => 0))] := hD
  refine ct_pf (ci := 5) hx hb hts am_ly5 tyX5 tyX5_ok nmX5 hown hin hK hP hD hS rfl 0 (by decide) wx_137 rfl rfl rfl (Nat.le_of_ble_eq_true rfl) dX5_init_8 (fun H locs hP hD hS => ?_)
  have hP : va_P D vwCl [(h0, .inr (5, [.ref q6, .null, .int 0, .int 0, .int 0, .int 0])), (q6, .inl (cz 0, 3, .inl fun _ => 0))] H := hP
  have hD : va_D A [(h0, .inr (5, [.ref q6, .null, .int 0, .int 0, .int 0, .int 0])), (q6, .inl (cz 0, 3, .inl fun _ => 0))] := hD
  refine lv_aload_n hx hb dX5_init_11 rfl (lv_at hl 0 rfl) ?_
  refine lv_iconst (v := 3) hx hb dX5_init_12 (by decide) ?_
  refine ct_al hx hb hts hK hP hD hS hA (n := 3) (N' := 3) (by decide) (by decide) (Nat.le_of_ble_eq_true rfl) (Nat.le_of_ble_eq_true rfl) (Nat.le_of_ble_eq_true rfl) dX5_init_13 (fun q13 H hP hD hS => ?_)
  have hP : va_P D vwCl [(h0, .inr (5, [.ref q6, .null, .int 0, .int 0, .int 0, .int 0])), (q6, .inl (cz 0, 3, .inl fun _ => 0)), (q13, .inl (cz 1, 3, .inr (.inl fun _ => 0)))] H := hP
  have hD : va_D A [(h0, .inr (5, [.ref q6, .null, .int 0, .int 0, .int 0, .int 0])), (q6, .inl (cz 0, 3, .inl fun _ => 0)), (q13, .inl (cz 1, 3, .inr (.inl fun _ => 0)))] := hD
  refine ct_pf (ci := 5) hx hb hts am_ly5 tyX5 tyX5_ok nmX5 hown hin hK hP hD hS rfl 1 (by decide) wx_140 rfl rfl rfl (Nat.le_of_ble_eq_true rfl) dX5_init_15 (fun H locs hP hD hS => ?_)
  have hP : va_P D vwCl [(h0, .inr (5, [.ref q6, .ref q13, .int 0, .int 0, .int 0, .int 0])), (q6, .inl (cz 0, 3, .inl fun _ => 0)), (q13, .inl (cz 1, 3, .inr (.inl fun _ => 0)))] H := hP
  have hD : va_D A [(h0, .inr (5, [.ref q6, .ref q13, .int 0, .int 0, .int 0, .int 0])), (q6, .inl (cz 0, 3, .inl fun _ => 0)), (q13, .inl (cz 1, 3, .inr (.inl fun _ => 0)))] := hD
  refine W.widen (k := 2) (n := 6) (Nat.le_of_ble_eq_true rfl) (Nat.le_of_ble_eq_true rfl) ?_
  exact W.vret hx hb hr (fun t ht hW => ⟨⟨(fun k => ([h0, q6, q13] : List Nat).getD k 0), rfl, trivial, rfl, by rw [ht]; exact hP, hD⟩, hS.F ht⟩) hS.2.2 dX5_init_18
abbrev fz4 : List Value := [.null, .null, .int 0]
abbrev ff4 (cz : Nat → ClassId) (f : Nat → Nat) : va_W := [((f 0), .inr (4, [.ref (f 1), .ref (f 2), .int 0])), ((f 1), .inl (cz 0, 8, .inl fun _ => 0)), ((f 2), .inl (cz 2, 8, .inl fun _ => 0))]
set_option maxHeartbeats 4000000 in
set_option maxRecDepth 100000 in
theorem ct_X4 (l : Launch) (D : va_G) (cz : Nat → ClassId) : ct_Met l D cz yX4_init cX4_init 1 { frames := 1, cells := 2, slots := 16, locals := 12 } 2 16 4 fz4 (ff4 cz) := by
  intro h0 sz
  refine Met.ofW (cc := cX4_init) (maxL := 1) (ret := none) (by decide) rfl ?_
  intro p e s m args below meth c s₁ B hml hv
  obtain ⟨rfl, hsz, hP, hK, hD0⟩ := hv
  have hx := B.exec
  have hb := B.bytes
  have hr := B.returns
  have hts0 := atoms_spec (ws := Cond.code yX4_init cX4_init 1 none :: am_big) B.pre
  have hts : ∀ w ∈ am_big, w.before _ s = true := fun w hw => hts0 w (List.mem_cons_of_mem _ hw)
  have hown : s.vm.findClass RX4 = some m.cls := findClass_of_methodNamed B.named
  have hlocks := B.notSynchronized
  have hin : meth.name = "<init>" := (name_of_methodNamed B.named B.method).1
  subst hsz
  have hD := hD0.self (sz := s.heap.size)
  generalize hAe : va_A [(h0, .inr (4, fz4))] s.heap.size = A at hD ⊢
  have hA : ∀ q : Nat, s.heap.size ≤ q → A q := fun q h => by rw [← hAe]; exact Or.inr h
  have hS : va_S A s.heap s.heap [] := va_S.rf
  have hP : va_P D vwCl [(h0, .inr (4, [.null, .null, .int 0]))] s.heap := hP
  have hl := lv_entry ([.ref h0]) (n := 1) (Nat.le_of_ble_eq_true rfl)
  rw [lg_entry_eq]
  generalize (lg_sl ([.ref h0]) ++ List.replicate (1 - (lg_sl ([.ref h0])).length) Slot.unset).toArray = ls at hl ⊢
  have hl : lv_has ls 1 [(0, .ref h0)] := hl
  refine lv_aload_n hx hb dX4_init_0 rfl (lv_at hl 0 rfl) ?_
  refine W.objInit hx hb hown (hts _ wx_233) (hts _ wx_74) (hts _ wx_75) rfl (by rw [hml]; exact hl.1) rfl dX4_init_1 (Nat.le_of_ble_eq_true rfl) (Nat.le_of_ble_eq_true rfl) ?_
  refine W.eq (g2 := F0 m 4 ls []) rfl ?_
  refine lv_aload_n hx hb dX4_init_4 rfl (lv_at hl 0 rfl) ?_
  refine lv_bipush (v := 8) hx hb dX4_init_5 (by decide) ?_
  refine ct_ai hx hb hts hK hP hD hS hA (n := 8) (N' := 8) (by decide) (by decide) (Nat.le_of_ble_eq_true rfl) (Nat.le_of_ble_eq_true rfl) (Nat.le_of_ble_eq_true rfl) dX4_init_7 (fun q7 H hP hD hS => ?_)
  have hP : va_P D vwCl [(h0, .inr (4, [.null, .null, .int 0])), (q7, .inl (cz 0, 8, .inl fun _ => 0))] H := hP
  have hD : va_D A [(h0, .inr (4, [.null, .null, .int 0])), (q7, .inl (cz 0, 8, .inl fun _ => 0))] := hD
  refine ct_pf (ci := 4) hx hb hts am_ly4 tyX4 tyX4_ok nmX4 hown hin hK hP hD hS rfl 0 (by decide) wx_234 rfl rfl rfl (Nat.le_of_ble_eq_true rfl) dX4_init_9 (fun H locs hP hD hS => ?_)
  have hP : va_P D vwCl [(h0, .inr (4, [.ref q7, .null, .int 0])), (q7, .inl (cz 0, 8, .inl fun _ => 0))] H := hP
  have hD : va_D A [(h0, .inr (4, [.ref q7, .null, .int 0])), (q7, .inl (cz 0, 8, .inl fun _ => 0))] := hD
  refine lv_aload_n hx hb dX4_init_12 rfl (lv_at hl 0 rfl) ?_
  refine lv_bipush (v := 8) hx hb dX4_init_13 (by decide) ?_
  refine ct_az hx hb hts hK hP hD hS hA (n := 8) (N' := 8) (by decide) (by decide) (Nat.le_of_ble_eq_true rfl) (Nat.le_of_ble_eq_true rfl) (Nat.le_of_ble_eq_true rfl) dX4_init_15 (fun q15 H hP hD hS => ?_)
  have hP : va_P D vwCl [(h0, .inr (4, [.ref q7, .null, .int 0])), (q7, .inl (cz 0, 8, .inl fun _ => 0)), (q15, .inl (cz 2, 8, .inl fun _ => 0))] H := hP
  have hD : va_D A [(h0, .inr (4, [.ref q7, .null, .int 0])), (q7, .inl (cz 0, 8, .inl fun _ => 0)), (q15, .inl (cz 2, 8, .inl fun _ => 0))] := hD
  refine ct_pf (ci := 4) hx hb hts am_ly4 tyX4 tyX4_ok nmX4 hown hin hK hP hD hS rfl 1 (by decide) wx_236 rfl rfl rfl (Nat.le_of_ble_eq_true rfl) dX4_init_17 (fun H locs hP hD hS => ?_)
  have hP : va_P D vwCl [(h0, .inr (4, [.ref q7, .ref q15, .int 0])), (q7, .inl (cz 0, 8, .inl fun _ => 0)), (q15, .inl (cz 2, 8, .inl fun _ => 0))] H := hP
  have hD : va_D A [(h0, .inr (4, [.ref q7, .ref q15, .int 0])), (q7, .inl (cz 0, 8, .inl fun _ => 0)), (q15, .inl (cz 2, 8, .inl fun _ => 0))] := hD
  refine lv_aload_n hx hb dX4_init_20 rfl (lv_at hl 0 rfl) ?_
  refine lv_iconst (v := 0) hx hb dX4_init_21 (by decide) ?_
  refine ct_pf (ci := 4) hx hb hts am_ly4 tyX4 tyX4_ok nmX4 hown hin hK hP hD hS rfl 2 (by decide) wx_238 rfl rfl rfl (Nat.le_of_ble_eq_true rfl) dX4_init_22 (fun H locs hP hD hS => ?_)
  have hP : va_P D vwCl [(h0, .inr (4, [.ref q7, .ref q15, .int 0])), (q7, .inl (cz 0, 8, .inl fun _ => 0)), (q15, .inl (cz 2, 8, .inl fun _ => 0))] H := hP
  have hD : va_D A [(h0, .inr (4, [.ref q7, .ref q15, .int 0])), (q7, .inl (cz 0, 8, .inl fun _ => 0)), (q15, .inl (cz 2, 8, .inl fun _ => 0))] := hD
  refine W.widen (k := 2) (n := 16) (Nat.le_of_ble_eq_true rfl) (Nat.le_of_ble_eq_true rfl) ?_
  exact W.vret hx hb hr (fun t ht hW => ⟨⟨(fun k => ([h0, q7, q15] : List Nat).getD k 0), rfl, trivial, rfl, by rw [ht]; exact hP, hD⟩, hS.F ht⟩) hS.2.2 dX4_init_25
abbrev fz2 : List Value := [.null, .null, .null, .null, .int 0, .long 0, .long 0, .long 0, .long 0, .long 0, .long 0, .long 0]
abbrev ff2 (cz : Nat → ClassId) (f : Nat → Nat) : va_W := [((f 0), .inr (2, [.ref (f 1), .ref (f 2), .ref (f 3), .ref (f 4), .int 0, .long 0, .long 0, .long 0, .long 0, .long 0, .long 0, .long 0])), ((f 1), .inl (cz 0, 8, .inl fun _ => 0)), ((f 2), .inl (cz 0, 8, .inl fun _ => 0)), ((f 3), .inl (cz 0, 8, .inl fun _ => 0)), ((f 4), .inl (cz 0, 8, .inl fun _ => 0))]
set_option maxHeartbeats 4000000 in
set_option maxRecDepth 100000 in
theorem ct_X2 (l : Launch) (D : va_G) (cz : Nat → ClassId) : ct_Met l D cz yX2_init cX2_init 1 { frames := 1, cells := 4, slots := 32, locals := 12 } 4 32 2 fz2 (ff2 cz) := by
  intro h0 sz
  refine Met.ofW (cc := cX2_init) (maxL := 1) (ret := none) (by decide) rfl ?_
  intro p e s m args below meth c s₁ B hml hv
  obtain ⟨rfl, hsz, hP, hK, hD0⟩ := hv
  have hx := B.exec
  have hb := B.bytes
  have hr := B.returns
  have hts0 := atoms_spec (ws := Cond.code yX2_init cX2_init 1 none :: am_big) B.pre
  have hts : ∀ w ∈ am_big, w.before _ s = true := fun w hw => hts0 w (List.mem_cons_of_mem _ hw)
  have hown : s.vm.findClass RX2 = some m.cls := findClass_of_methodNamed B.named
  have hlocks := B.notSynchronized
  have hin : meth.name = "<init>" := (name_of_methodNamed B.named B.method).1
  subst hsz
  have hD := hD0.self (sz := s.heap.size)
  generalize hAe : va_A [(h0, .inr (2, fz2))] s.heap.size = A at hD ⊢
  have hA : ∀ q : Nat, s.heap.size ≤ q → A q := fun q h => by rw [← hAe]; exact Or.inr h
  have hS : va_S A s.heap s.heap [] := va_S.rf
  have hP : va_P D vwCl [(h0, .inr (2, [.null, .null, .null, .null, .int 0, .long 0, .long 0, .long 0, .long 0, .long 0, .long 0, .long 0]))] s.heap := hP
  have hl := lv_entry ([.ref h0]) (n := 1) (Nat.le_of_ble_eq_true rfl)
  rw [lg_entry_eq]
  generalize (lg_sl ([.ref h0]) ++ List.replicate (1 - (lg_sl ([.ref h0])).length) Slot.unset).toArray = ls at hl ⊢
  have hl : lv_has ls 1 [(0, .ref h0)] := hl
  refine lv_aload_n hx hb dX2_init_0 rfl (lv_at hl 0 rfl) ?_
  refine W.objInit hx hb hown (hts _ wx_252) (hts _ wx_74) (hts _ wx_75) rfl (by rw [hml]; exact hl.1) rfl dX2_init_1 (Nat.le_of_ble_eq_true rfl) (Nat.le_of_ble_eq_true rfl) ?_
  refine W.eq (g2 := F0 m 4 ls []) rfl ?_
  refine lv_aload_n hx hb dX2_init_4 rfl (lv_at hl 0 rfl) ?_
  refine lv_bipush (v := 8) hx hb dX2_init_5 (by decide) ?_
  refine ct_ai hx hb hts hK hP hD hS hA (n := 8) (N' := 8) (by decide) (by decide) (Nat.le_of_ble_eq_true rfl) (Nat.le_of_ble_eq_true rfl) (Nat.le_of_ble_eq_true rfl) dX2_init_7 (fun q7 H hP hD hS => ?_)
  have hP : va_P D vwCl [(h0, .inr (2, [.null, .null, .null, .null, .int 0, .long 0, .long 0, .long 0, .long 0, .long 0, .long 0, .long 0])), (q7, .inl (cz 0, 8, .inl fun _ => 0))] H := hP
  have hD : va_D A [(h0, .inr (2, [.null, .null, .null, .null, .int 0, .long 0, .long 0, .long 0, .long 0, .long 0, .long 0, .long 0])), (q7, .inl (cz 0, 8, .inl fun _ => 0))] := hD
  refine ct_pf (ci := 2) hx hb hts am_ly2 tyX2 tyX2_ok nmX2 hown hin hK hP hD hS rfl 0 (by decide) wx_253 rfl rfl rfl (Nat.le_of_ble_eq_true rfl) dX2_init_9 (fun H locs hP hD hS => ?_)
  have hP : va_P D vwCl [(h0, .inr (2, [.ref q7, .null, .null, .null, .int 0, .long 0, .long 0, .long 0, .long 0, .long 0, .long 0, .long 0])), (q7, .inl (cz 0, 8, .inl fun _ => 0))] H := hP
  have hD : va_D A [(h0, .inr (2, [.ref q7, .null, .null, .null, .int 0, .long 0, .long 0, .long 0, .long 0, .long 0, .long 0, .long 0])), (q7, .inl (cz 0, 8, .inl fun _ => 0))] := hD
  refine lv_aload_n hx hb dX2_init_12 rfl (lv_at hl 0 rfl) ?_
  refine lv_bipush (v := 8) hx hb dX2_init_13 (by decide) ?_
  refine ct_ai hx hb hts hK hP hD hS hA (n := 8) (N' := 8) (by decide) (by decide) (Nat.le_of_ble_eq_true rfl) (Nat.le_of_ble_eq_true rfl) (Nat.le_of_ble_eq_true rfl) dX2_init_15 (fun q15 H hP hD hS => ?_)
  have hP : va_P D vwCl [(h0, .inr (2, [.ref q7, .null, .null, .null, .int 0, .long 0, .long 0, .long 0, .long 0, .long 0, .long 0, .long 0])), (q7, .inl (cz 0, 8, .inl fun _ => 0)), (q15, .inl (cz 0, 8, .inl fun _ => 0))] H := hP
  have hD : va_D A [(h0, .inr (2, [.ref q7, .null, .null, .null, .int 0, .long 0, .long 0, .long 0, .long 0, .long 0, .long 0, .long 0])), (q7, .inl (cz 0, 8, .inl fun _ => 0)), (q15, .inl (cz 0, 8, .inl fun _ => 0))] := hD
  refine ct_pf (ci := 2) hx hb hts am_ly2 tyX2 tyX2_ok nmX2 hown hin hK hP hD hS rfl 1 (by decide) wx_254 rfl rfl rfl (Nat.le_of_ble_eq_true rfl) dX2_init_17 (fun H locs hP hD hS => ?_)
  have hP : va_P D vwCl [(h0, .inr (2, [.ref q7, .ref q15, .null, .null, .int 0, .long 0, .long 0, .long 0, .long 0, .long 0, .long 0, .long 0])), (q7, .inl (cz 0, 8, .inl fun _ => 0)), (q15, .inl (cz 0, 8, .inl fun _ => 0))] H := hP
  have hD : va_D A [(h0, .inr (2, [.ref q7, .ref q15, .null, .null, .int 0, .long 0, .long 0, .long 0, .long 0, .long 0, .long 0, .long 0])), (q7, .inl (cz 0, 8, .inl fun _ => 0)), (q15, .inl (cz 0, 8, .inl fun _ => 0))] := hD
  refine lv_aload_n hx hb dX2_init_20 rfl (lv_at hl 0 rfl) ?_
  refine lv_bipush (v := 8) hx hb dX2_init_21 (by decide) ?_
  refine ct_ai hx hb hts hK hP hD hS hA (n := 8) (N' := 8) (by decide) (by decide) (Nat.le_of_ble_eq_true rfl) (Nat.le_of_ble_eq_true rfl) (Nat.le_of_ble_eq_true rfl) dX2_init_23 (fun q23 H hP hD hS => ?_)
  have hP : va_P D vwCl [(h0, .inr (2, [.ref q7, .ref q15, .null, .null, .int 0, .long 0, .long 0, .long 0, .long 0, .long 0, .long 0, .long 0])), (q7, .inl (cz 0, 8, .inl fun _ => 0)), (q15, .inl (cz 0, 8, .inl fun _ => 0)), (q23, .inl (cz 0, 8, .inl fun _ => 0))] H := hP
  have hD : va_D A [(h0, .inr (2, [.ref q7, .ref q15, .null, .null, .int 0, .long 0, .long 0, .long 0, .long 0, .long 0, .long 0, .long 0])), (q7, .inl (cz 0, 8, .inl fun _ => 0)), (q15, .inl (cz 0, 8, .inl fun _ => 0)), (q23, .inl (cz 0, 8, .inl fun _ => 0))] := hD
  refine ct_pf (ci := 2) hx hb hts am_ly2 tyX2 tyX2_ok nmX2 hown hin hK hP hD hS rfl 2 (by decide) wx_255 rfl rfl rfl (Nat.le_of_ble_eq_true rfl) dX2_init_25 (fun H locs hP hD hS => ?_)
  have hP : va_P D vwCl [(h0, .inr (2, [.ref q7, .ref q15, .ref q23, .null, .int 0, .long 0, .long 0, .long 0, .long 0, .long 0, .long 0, .long 0])), (q7, .inl (cz 0, 8, .inl fun _ => 0)), (q15, .inl (cz 0, 8, .inl fun _ => 0)), (q23, .inl (cz 0, 8, .inl fun _ => 0))] H := hP
  have hD : va_D A [(h0, .inr (2, [.ref q7, .ref q15, .ref q23, .null, .int 0, .long 0, .long 0, .long 0, .long 0, .long 0, .long 0, .long 0])), (q7, .inl (cz 0, 8, .inl fun _ => 0)), (q15, .inl (cz 0, 8, .inl fun _ => 0)), (q23, .inl (cz 0, 8, .inl fun _ => 0))] := hD
  refine lv_aload_n hx hb dX2_init_28 rfl (lv_at hl 0 rfl) ?_
  refine lv_bipush (v := 8) hx hb dX2_init_29 (by decide) ?_
  refine ct_ai hx hb hts hK hP hD hS hA (n := 8) (N' := 8) (by decide) (by decide) (Nat.le_of_ble_eq_true rfl) (Nat.le_of_ble_eq_true rfl) (Nat.le_of_ble_eq_true rfl) dX2_init_31 (fun q31 H hP hD hS => ?_)
  have hP : va_P D vwCl [(h0, .inr (2, [.ref q7, .ref q15, .ref q23, .null, .int 0, .long 0, .long 0, .long 0, .long 0, .long 0, .long 0, .long 0])), (q7, .inl (cz 0, 8, .inl fun _ => 0)), (q15, .inl (cz 0, 8, .inl fun _ => 0)), (q23, .inl (cz 0, 8, .inl fun _ => 0)), (q31, .inl (cz 0, 8, .inl fun _ => 0))] H := hP
  have hD : va_D A [(h0, .inr (2, [.ref q7, .ref q15, .ref q23, .null, .int 0, .long 0, .long 0, .long 0, .long 0, .long 0, .long 0, .long 0])), (q7, .inl (cz 0, 8, .inl fun _ => 0)), (q15, .inl (cz 0, 8, .inl fun _ => 0)), (q23, .inl (cz 0, 8, .inl fun _ => 0)), (q31, .inl (cz 0, 8, .inl fun _ => 0))] := hD
  refine ct_pf (ci := 2) hx hb hts am_ly2 tyX2 tyX2_ok nmX2 hown hin hK hP hD hS rfl 3 (by decide) wx_256 rfl rfl rfl (Nat.le_of_ble_eq_true rfl) dX2_init_33 (fun H locs hP hD hS => ?_)
  have hP : va_P D vwCl [(h0, .inr (2, [.ref q7, .ref q15, .ref q23, .ref q31, .int 0, .long 0, .long 0, .long 0, .long 0, .long 0, .long 0, .long 0])), (q7, .inl (cz 0, 8, .inl fun _ => 0)), (q15, .inl (cz 0, 8, .inl fun _ => 0)), (q23, .inl (cz 0, 8, .inl fun _ => 0)), (q31, .inl (cz 0, 8, .inl fun _ => 0))] H := hP
  have hD : va_D A [(h0, .inr (2, [.ref q7, .ref q15, .ref q23, .ref q31, .int 0, .long 0, .long 0, .long 0, .long 0, .long 0, .long 0, .long 0])), (q7, .inl (cz 0, 8, .inl fun _ => 0)), (q15, .inl (cz 0, 8, .inl fun _ => 0)), (q23, .inl (cz 0, 8, .inl fun _ => 0)), (q31, .inl (cz 0, 8, .inl fun _ => 0))] := hD
  refine lv_aload_n hx hb dX2_init_36 rfl (lv_at hl 0 rfl) ?_
  refine lv_iconst (v := 0) hx hb dX2_init_37 (by decide) ?_
  refine ct_pf (ci := 2) hx hb hts am_ly2 tyX2 tyX2_ok nmX2 hown hin hK hP hD hS rfl 4 (by decide) wx_257 rfl rfl rfl (Nat.le_of_ble_eq_true rfl) dX2_init_38 (fun H locs hP hD hS => ?_)
  have hP : va_P D vwCl [(h0, .inr (2, [.ref q7, .ref q15, .ref q23, .ref q31, .int 0, .long 0, .long 0, .long 0, .long 0, .long 0, .long 0, .long 0])), (q7, .inl (cz 0, 8, .inl fun _ => 0)), (q15, .inl (cz 0, 8, .inl fun _ => 0)), (q23, .inl (cz 0, 8, .inl fun _ => 0)), (q31, .inl (cz 0, 8, .inl fun _ => 0))] H := hP
  have hD : va_D A [(h0, .inr (2, [.ref q7, .ref q15, .ref q23, .ref q31, .int 0, .long 0, .long 0, .long 0, .long 0, .long 0, .long 0, .long 0])), (q7, .inl (cz 0, 8, .inl fun _ => 0)), (q15, .inl (cz 0, 8, .inl fun _ => 0)), (q23, .inl (cz 0, 8, .inl fun _ => 0)), (q31, .inl (cz 0, 8, .inl fun _ => 0))] := hD
  refine lv_aload_n hx hb dX2_init_41 rfl (lv_at hl 0 rfl) ?_
  refine lv_lconst (v := 0) hx hb dX2_init_42 rfl ?_
  refine ct_pf (ci := 2) hx hb hts am_ly2 tyX2 tyX2_ok nmX2 hown hin hK hP hD hS rfl 5 (by decide) wx_258 rfl rfl rfl (Nat.le_of_ble_eq_true rfl) dX2_init_43 (fun H locs hP hD hS => ?_)
  have hP : va_P D vwCl [(h0, .inr (2, [.ref q7, .ref q15, .ref q23, .ref q31, .int 0, .long 0, .long 0, .long 0, .long 0, .long 0, .long 0, .long 0])), (q7, .inl (cz 0, 8, .inl fun _ => 0)), (q15, .inl (cz 0, 8, .inl fun _ => 0)), (q23, .inl (cz 0, 8, .inl fun _ => 0)), (q31, .inl (cz 0, 8, .inl fun _ => 0))] H := hP
  have hD : va_D A [(h0, .inr (2, [.ref q7, .ref q15, .ref q23, .ref q31, .int 0, .long 0, .long 0, .long 0, .long 0, .long 0, .long 0, .long 0])), (q7, .inl (cz 0, 8, .inl fun _ => 0)), (q15, .inl (cz 0, 8, .inl fun _ => 0)), (q23, .inl (cz 0, 8, .inl fun _ => 0)), (q31, .inl (cz 0, 8, .inl fun _ => 0))] := hD
  refine lv_aload_n hx hb dX2_init_46 rfl (lv_at hl 0 rfl) ?_
  refine lv_lconst (v := 0) hx hb dX2_init_47 rfl ?_
  refine ct_pf (ci := 2) hx hb hts am_ly2 tyX2 tyX2_ok nmX2 hown hin hK hP hD hS rfl 6 (by decide) wx_259 rfl rfl rfl (Nat.le_of_ble_eq_true rfl) dX2_init_48 (fun H locs hP hD hS => ?_)
  have hP : va_P D vwCl [(h0, .inr (2, [.ref q7, .ref q15, .ref q23, .ref q31, .int 0, .long 0, .long 0, .long 0, .long 0, .long 0, .long 0, .long 0])), (q7, .inl (cz 0, 8, .inl fun _ => 0)), (q15, .inl (cz 0, 8, .inl fun _ => 0)), (q23, .inl (cz 0, 8, .inl fun _ => 0)), (q31, .inl (cz 0, 8, .inl fun _ => 0))] H := hP
  have hD : va_D A [(h0, .inr (2, [.ref q7, .ref q15, .ref q23, .ref q31, .int 0, .long 0, .long 0, .long 0, .long 0, .long 0, .long 0, .long 0])), (q7, .inl (cz 0, 8, .inl fun _ => 0)), (q15, .inl (cz 0, 8, .inl fun _ => 0)), (q23, .inl (cz 0, 8, .inl fun _ => 0)), (q31, .inl (cz 0, 8, .inl fun _ => 0))] := hD
  refine lv_aload_n hx hb dX2_init_51 rfl (lv_at hl 0 rfl) ?_
  refine lv_lconst (v := 0) hx hb dX2_init_52 rfl ?_
  refine ct_pf (ci := 2) hx hb hts am_ly2 tyX2 tyX2_ok nmX2 hown hin hK hP hD hS rfl 7 (by decide) wx_260 rfl rfl rfl (Nat.le_of_ble_eq_true rfl) dX2_init_53 (fun H locs hP hD hS => ?_)
  have hP : va_P D vwCl [(h0, .inr (2, [.ref q7, .ref q15, .ref q23, .ref q31, .int 0, .long 0, .long 0, .long 0, .long 0, .long 0, .long 0, .long 0])), (q7, .inl (cz 0, 8, .inl fun _ => 0)), (q15, .inl (cz 0, 8, .inl fun _ => 0)), (q23, .inl (cz 0, 8, .inl fun _ => 0)), (q31, .inl (cz 0, 8, .inl fun _ => 0))] H := hP
  have hD : va_D A [(h0, .inr (2, [.ref q7, .ref q15, .ref q23, .ref q31, .int 0, .long 0, .long 0, .long 0, .long 0, .long 0, .long 0, .long 0])), (q7, .inl (cz 0, 8, .inl fun _ => 0)), (q15, .inl (cz 0, 8, .inl fun _ => 0)), (q23, .inl (cz 0, 8, .inl fun _ => 0)), (q31, .inl (cz 0, 8, .inl fun _ => 0))] := hD
  refine lv_aload_n hx hb dX2_init_56 rfl (lv_at hl 0 rfl) ?_
  refine lv_lconst (v := 0) hx hb dX2_init_57 rfl ?_
  refine ct_pf (ci := 2) hx hb hts am_ly2 tyX2 tyX2_ok nmX2 hown hin hK hP hD hS rfl 8 (by decide) wx_261 rfl rfl rfl (Nat.le_of_ble_eq_true rfl) dX2_init_58 (fun H locs hP hD hS => ?_)
  have hP : va_P D vwCl [(h0, .inr (2, [.ref q7, .ref q15, .ref q23, .ref q31, .int 0, .long 0, .long 0, .long 0, .long 0, .long 0, .long 0, .long 0])), (q7, .inl (cz 0, 8, .inl fun _ => 0)), (q15, .inl (cz 0, 8, .inl fun _ => 0)), (q23, .inl (cz 0, 8, .inl fun _ => 0)), (q31, .inl (cz 0, 8, .inl fun _ => 0))] H := hP
  have hD : va_D A [(h0, .inr (2, [.ref q7, .ref q15, .ref q23, .ref q31, .int 0, .long 0, .long 0, .long 0, .long 0, .long 0, .long 0, .long 0])), (q7, .inl (cz 0, 8, .inl fun _ => 0)), (q15, .inl (cz 0, 8, .inl fun _ => 0)), (q23, .inl (cz 0, 8, .inl fun _ => 0)), (q31, .inl (cz 0, 8, .inl fun _ => 0))] := hD
  refine lv_aload_n hx hb dX2_init_61 rfl (lv_at hl 0 rfl) ?_
  refine lv_lconst (v := 0) hx hb dX2_init_62 rfl ?_
  refine ct_pf (ci := 2) hx hb hts am_ly2 tyX2 tyX2_ok nmX2 hown hin hK hP hD hS rfl 9 (by decide) wx_262 rfl rfl rfl (Nat.le_of_ble_eq_true rfl) dX2_init_63 (fun H locs hP hD hS => ?_)
  have hP : va_P D vwCl [(h0, .inr (2, [.ref q7, .ref q15, .ref q23, .ref q31, .int 0, .long 0, .long 0, .long 0, .long 0, .long 0, .long 0, .long 0])), (q7, .inl (cz 0, 8, .inl fun _ => 0)), (q15, .inl (cz 0, 8, .inl fun _ => 0)), (q23, .inl (cz 0, 8, .inl fun _ => 0)), (q31, .inl (cz 0, 8, .inl fun _ => 0))] H := hP
  have hD : va_D A [(h0, .inr (2, [.ref q7, .ref q15, .ref q23, .ref q31, .int 0, .long 0, .long 0, .long 0, .long 0, .long 0, .long 0, .long 0])), (q7, .inl (cz 0, 8, .inl fun _ => 0)), (q15, .inl (cz 0, 8, .inl fun _ => 0)), (q23, .inl (cz 0, 8, .inl fun _ => 0)), (q31, .inl (cz 0, 8, .inl fun _ => 0))] := hD
  refine lv_aload_n hx hb dX2_init_66 rfl (lv_at hl 0 rfl) ?_
  refine lv_lconst (v := 0) hx hb dX2_init_67 rfl ?_
  refine ct_pf (ci := 2) hx hb hts am_ly2 tyX2 tyX2_ok nmX2 hown hin hK hP hD hS rfl 10 (by decide) wx_264 rfl rfl rfl (Nat.le_of_ble_eq_true rfl) dX2_init_68 (fun H locs hP hD hS => ?_)
  have hP : va_P D vwCl [(h0, .inr (2, [.ref q7, .ref q15, .ref q23, .ref q31, .int 0, .long 0, .long 0, .long 0, .long 0, .long 0, .long 0, .long 0])), (q7, .inl (cz 0, 8, .inl fun _ => 0)), (q15, .inl (cz 0, 8, .inl fun _ => 0)), (q23, .inl (cz 0, 8, .inl fun _ => 0)), (q31, .inl (cz 0, 8, .inl fun _ => 0))] H := hP
  have hD : va_D A [(h0, .inr (2, [.ref q7, .ref q15, .ref q23, .ref q31, .int 0, .long 0, .long 0, .long 0, .long 0, .long 0, .long 0, .long 0])), (q7, .inl (cz 0, 8, .inl fun _ => 0)), (q15, .inl (cz 0, 8, .inl fun _ => 0)), (q23, .inl (cz 0, 8, .inl fun _ => 0)), (q31, .inl (cz 0, 8, .inl fun _ => 0))] := hD
  refine lv_aload_n hx hb dX2_init_71 rfl (lv_at hl 0 rfl) ?_
  refine lv_lconst (v := 0) hx hb dX2_init_72 rfl ?_
  refine ct_pf (ci := 2) hx hb hts am_ly2 tyX2 tyX2_ok nmX2 hown hin hK hP hD hS rfl 11 (by decide) wx_266 rfl rfl rfl (Nat.le_of_ble_eq_true rfl) dX2_init_73 (fun H locs hP hD hS => ?_)
  have hP : va_P D vwCl [(h0, .inr (2, [.ref q7, .ref q15, .ref q23, .ref q31, .int 0, .long 0, .long 0, .long 0, .long 0, .long 0, .long 0, .long 0])), (q7, .inl (cz 0, 8, .inl fun _ => 0)), (q15, .inl (cz 0, 8, .inl fun _ => 0)), (q23, .inl (cz 0, 8, .inl fun _ => 0)), (q31, .inl (cz 0, 8, .inl fun _ => 0))] H := hP
  have hD : va_D A [(h0, .inr (2, [.ref q7, .ref q15, .ref q23, .ref q31, .int 0, .long 0, .long 0, .long 0, .long 0, .long 0, .long 0, .long 0])), (q7, .inl (cz 0, 8, .inl fun _ => 0)), (q15, .inl (cz 0, 8, .inl fun _ => 0)), (q23, .inl (cz 0, 8, .inl fun _ => 0)), (q31, .inl (cz 0, 8, .inl fun _ => 0))] := hD
  refine W.widen (k := 4) (n := 32) (Nat.le_of_ble_eq_true rfl) (Nat.le_of_ble_eq_true rfl) ?_
  exact W.vret hx hb hr (fun t ht hW => ⟨⟨(fun k => ([h0, q7, q15, q23, q31] : List Nat).getD k 0), rfl, trivial, rfl, by rw [ht]; exact hP, hD⟩, hS.F ht⟩) hS.2.2 dX2_init_76
abbrev fz3 : List Value := [.null, .null, .null, .int 0, .null, .null, .null, .null]
abbrev ff3 (cz : Nat → ClassId) (f : Nat → Nat) : va_W := [((f 0), .inr (3, [.ref (f 1), .ref (f 2), .ref (f 3), .int 0, .ref (f 4), .ref (f 5), .ref (f 6), .ref (f 7)])), ((f 1), .inl (cz 0, 8, .inl fun _ => 0)), ((f 2), .inl (cz 0, 8, .inl fun _ => 0)), ((f 3), .inl (cz 0, 8, .inl fun _ => 0)), ((f 4), .inl (cz 1, 8, .inr (.inl fun _ => 0))), ((f 5), .inl (cz 1, 8, .inr (.inl fun _ => 0))), ((f 6), .inl (cz 2, 8, .inl fun _ => 0)), ((f 7), .inl (cz 2, 8, .inl fun _ => 0))]
set_option maxHeartbeats 4000000 in
set_option maxRecDepth 100000 in
theorem ct_X3 (l : Launch) (D : va_G) (cz : Nat → ClassId) : ct_Met l D cz yX3_init cX3_init 1 { frames := 1, cells := 7, slots := 56, locals := 12 } 7 56 3 fz3 (ff3 cz) := by
  intro h0 sz
  refine Met.ofW (cc := cX3_init) (maxL := 1) (ret := none) (by decide) rfl ?_
  intro p e s m args below meth c s₁ B hml hv
  obtain ⟨rfl, hsz, hP, hK, hD0⟩ := hv
  have hx := B.exec
  have hb := B.bytes
  have hr := B.returns
  have hts0 := atoms_spec (ws := Cond.code yX3_init cX3_init 1 none :: am_big) B.pre
  have hts : ∀ w ∈ am_big, w.before _ s = true := fun w hw => hts0 w (List.mem_cons_of_mem _ hw)
  have hown : s.vm.findClass RX3 = some m.cls := findClass_of_methodNamed B.named
  have hlocks := B.notSynchronized
  have hin : meth.name = "<init>" := (name_of_methodNamed B.named B.method).1
  subst hsz
  have hD := hD0.self (sz := s.heap.size)
  generalize hAe : va_A [(h0, .inr (3, fz3))] s.heap.size = A at hD ⊢
  have hA : ∀ q : Nat, s.heap.size ≤ q → A q := fun q h => by rw [← hAe]; exact Or.inr h
  have hS : va_S A s.heap s.heap [] := va_S.rf
  have hP : va_P D vwCl [(h0, .inr (3, [.null, .null, .null, .int 0, .null, .null, .null, .null]))] s.heap := hP
  have hl := lv_entry ([.ref h0]) (n := 1) (Nat.le_of_ble_eq_true rfl)
  rw [lg_entry_eq]
  generalize (lg_sl ([.ref h0]) ++ List.replicate (1 - (lg_sl ([.ref h0])).length) Slot.unset).toArray = ls at hl ⊢
  have hl : lv_has ls 1 [(0, .ref h0)] := hl
  refine lv_aload_n hx hb dX3_init_0 rfl (lv_at hl 0 rfl) ?_
  refine W.objInit hx hb hown (hts _ wx_298) (hts _ wx_74) (hts _ wx_75) rfl (by rw [hml]; exact hl.1) rfl dX3_init_1 (Nat.le_of_ble_eq_true rfl) (Nat.le_of_ble_eq_true rfl) ?_
  refine W.eq (g2 := F0 m 4 ls []) rfl ?_
  refine lv_aload_n hx hb dX3_init_4 rfl (lv_at hl 0 rfl) ?_
  refine lv_bipush (v := 8) hx hb dX3_init_5 (by decide) ?_
  refine ct_ai hx hb hts hK hP hD hS hA (n := 8) (N' := 8) (by decide) (by decide) (Nat.le_of_ble_eq_true rfl) (Nat.le_of_ble_eq_true rfl) (Nat.le_of_ble_eq_true rfl) dX3_init_7 (fun q7 H hP hD hS => ?_)
  have hP : va_P D vwCl [(h0, .inr (3, [.null, .null, .null, .int 0, .null, .null, .null, .null])), (q7, .inl (cz 0, 8, .inl fun _ => 0))] H := hP
  have hD : va_D A [(h0, .inr (3, [.null, .null, .null, .int 0, .null, .null, .null, .null])), (q7, .inl (cz 0, 8, .inl fun _ => 0))] := hD
  refine ct_pf (ci := 3) hx hb hts am_ly3 tyX3 tyX3_ok nmX3 hown hin hK hP hD hS rfl 0 (by decide) wx_299 rfl rfl rfl (Nat.le_of_ble_eq_true rfl) dX3_init_9 (fun H locs hP hD hS => ?_)
  have hP : va_P D vwCl [(h0, .inr (3, [.ref q7, .null, .null, .int 0, .null, .null, .null, .null])), (q7, .inl (cz 0, 8, .inl fun _ => 0))] H := hP
  have hD : va_D A [(h0, .inr (3, [.ref q7, .null, .null, .int 0, .null, .null, .null, .null])), (q7, .inl (cz 0, 8, .inl fun _ => 0))] := hD
  refine lv_aload_n hx hb dX3_init_12 rfl (lv_at hl 0 rfl) ?_
  refine lv_bipush (v := 8) hx hb dX3_init_13 (by decide) ?_
  refine ct_ai hx hb hts hK hP hD hS hA (n := 8) (N' := 8) (by decide) (by decide) (Nat.le_of_ble_eq_true rfl) (Nat.le_of_ble_eq_true rfl) (Nat.le_of_ble_eq_true rfl) dX3_init_15 (fun q15 H hP hD hS => ?_)
  have hP : va_P D vwCl [(h0, .inr (3, [.ref q7, .null, .null, .int 0, .null, .null, .null, .null])), (q7, .inl (cz 0, 8, .inl fun _ => 0)), (q15, .inl (cz 0, 8, .inl fun _ => 0))] H := hP
  have hD : va_D A [(h0, .inr (3, [.ref q7, .null, .null, .int 0, .null, .null, .null, .null])), (q7, .inl (cz 0, 8, .inl fun _ => 0)), (q15, .inl (cz 0, 8, .inl fun _ => 0))] := hD
  refine ct_pf (ci := 3) hx hb hts am_ly3 tyX3 tyX3_ok nmX3 hown hin hK hP hD hS rfl 1 (by decide) wx_301 rfl rfl rfl (Nat.le_of_ble_eq_true rfl) dX3_init_17 (fun H locs hP hD hS => ?_)
  have hP : va_P D vwCl [(h0, .inr (3, [.ref q7, .ref q15, .null, .int 0, .null, .null, .null, .null])), (q7, .inl (cz 0, 8, .inl fun _ => 0)), (q15, .inl (cz 0, 8, .inl fun _ => 0))] H := hP
  have hD : va_D A [(h0, .inr (3, [.ref q7, .ref q15, .null, .int 0, .null, .null, .null, .null])), (q7, .inl (cz 0, 8, .inl fun _ => 0)), (q15, .inl (cz 0, 8, .inl fun _ => 0))] := hD
  refine lv_aload_n hx hb dX3_init_20 rfl (lv_at hl 0 rfl) ?_
  refine lv_bipush (v := 8) hx hb dX3_init_21 (by decide) ?_
  refine ct_ai hx hb hts hK hP hD hS hA (n := 8) (N' := 8) (by decide) (by decide) (Nat.le_of_ble_eq_true rfl) (Nat.le_of_ble_eq_true rfl) (Nat.le_of_ble_eq_true rfl) dX3_init_23 (fun q23 H hP hD hS => ?_)
  have hP : va_P D vwCl [(h0, .inr (3, [.ref q7, .ref q15, .null, .int 0, .null, .null, .null, .null])), (q7, .inl (cz 0, 8, .inl fun _ => 0)), (q15, .inl (cz 0, 8, .inl fun _ => 0)), (q23, .inl (cz 0, 8, .inl fun _ => 0))] H := hP
  have hD : va_D A [(h0, .inr (3, [.ref q7, .ref q15, .null, .int 0, .null, .null, .null, .null])), (q7, .inl (cz 0, 8, .inl fun _ => 0)), (q15, .inl (cz 0, 8, .inl fun _ => 0)), (q23, .inl (cz 0, 8, .inl fun _ => 0))] := hD
  refine ct_pf (ci := 3) hx hb hts am_ly3 tyX3 tyX3_ok nmX3 hown hin hK hP hD hS rfl 2 (by decide) wx_303 rfl rfl rfl (Nat.le_of_ble_eq_true rfl) dX3_init_25 (fun H locs hP hD hS => ?_)
  have hP : va_P D vwCl [(h0, .inr (3, [.ref q7, .ref q15, .ref q23, .int 0, .null, .null, .null, .null])), (q7, .inl (cz 0, 8, .inl fun _ => 0)), (q15, .inl (cz 0, 8, .inl fun _ => 0)), (q23, .inl (cz 0, 8, .inl fun _ => 0))] H := hP
  have hD : va_D A [(h0, .inr (3, [.ref q7, .ref q15, .ref q23, .int 0, .null, .null, .null, .null])), (q7, .inl (cz 0, 8, .inl fun _ => 0)), (q15, .inl (cz 0, 8, .inl fun _ => 0)), (q23, .inl (cz 0, 8, .inl fun _ => 0))] := hD
  refine lv_aload_n hx hb dX3_init_28 rfl (lv_at hl 0 rfl) ?_
  refine lv_iconst (v := 0) hx hb dX3_init_29 (by decide) ?_
  refine ct_pf (ci := 3) hx hb hts am_ly3 tyX3 tyX3_ok nmX3 hown hin hK hP hD hS rfl 3 (by decide) wx_305 rfl rfl rfl (Nat.le_of_ble_eq_true rfl) dX3_init_30 (fun H locs hP hD hS => ?_)
  have hP : va_P D vwCl [(h0, .inr (3, [.ref q7, .ref q15, .ref q23, .int 0, .null, .null, .null, .null])), (q7, .inl (cz 0, 8, .inl fun _ => 0)), (q15, .inl (cz 0, 8, .inl fun _ => 0)), (q23, .inl (cz 0, 8, .inl fun _ => 0))] H := hP
  have hD : va_D A [(h0, .inr (3, [.ref q7, .ref q15, .ref q23, .int 0, .null, .null, .null, .null])), (q7, .inl (cz 0, 8, .inl fun _ => 0)), (q15, .inl (cz 0, 8, .inl fun _ => 0)), (q23, .inl (cz 0, 8, .inl fun _ => 0))] := hD
  refine lv_aload_n hx hb dX3_init_33 rfl (lv_at hl 0 rfl) ?_
  refine lv_bipush (v := 8) hx hb dX3_init_34 (by decide) ?_
  refine ct_al hx hb hts hK hP hD hS hA (n := 8) (N' := 8) (by decide) (by decide) (Nat.le_of_ble_eq_true rfl) (Nat.le_of_ble_eq_true rfl) (Nat.le_of_ble_eq_true rfl) dX3_init_36 (fun q36 H hP hD hS => ?_)
  have hP : va_P D vwCl [(h0, .inr (3, [.ref q7, .ref q15, .ref q23, .int 0, .null, .null, .null, .null])), (q7, .inl (cz 0, 8, .inl fun _ => 0)), (q15, .inl (cz 0, 8, .inl fun _ => 0)), (q23, .inl (cz 0, 8, .inl fun _ => 0)), (q36, .inl (cz 1, 8, .inr (.inl fun _ => 0)))] H := hP
  have hD : va_D A [(h0, .inr (3, [.ref q7, .ref q15, .ref q23, .int 0, .null, .null, .null, .null])), (q7, .inl (cz 0, 8, .inl fun _ => 0)), (q15, .inl (cz 0, 8, .inl fun _ => 0)), (q23, .inl (cz 0, 8, .inl fun _ => 0)), (q36, .inl (cz 1, 8, .inr (.inl fun _ => 0)))] := hD
  refine ct_pf (ci := 3) hx hb hts am_ly3 tyX3 tyX3_ok nmX3 hown hin hK hP hD hS rfl 4 (by decide) wx_307 rfl rfl rfl (Nat.le_of_ble_eq_true rfl) dX3_init_38 (fun H locs hP hD hS => ?_)
  have hP : va_P D vwCl [(h0, .inr (3, [.ref q7, .ref q15, .ref q23, .int 0, .ref q36, .null, .null, .null])), (q7, .inl (cz 0, 8, .inl fun _ => 0)), (q15, .inl (cz 0, 8, .inl fun _ => 0)), (q23, .inl (cz 0, 8, .inl fun _ => 0)), (q36, .inl (cz 1, 8, .inr (.inl fun _ => 0)))] H := hP
  have hD : va_D A [(h0, .inr (3, [.ref q7, .ref q15, .ref q23, .int 0, .ref q36, .null, .null, .null])), (q7, .inl (cz 0, 8, .inl fun _ => 0)), (q15, .inl (cz 0, 8, .inl fun _ => 0)), (q23, .inl (cz 0, 8, .inl fun _ => 0)), (q36, .inl (cz 1, 8, .inr (.inl fun _ => 0)))] := hD
  refine lv_aload_n hx hb dX3_init_41 rfl (lv_at hl 0 rfl) ?_
  refine lv_bipush (v := 8) hx hb dX3_init_42 (by decide) ?_
  refine ct_al hx hb hts hK hP hD hS hA (n := 8) (N' := 8) (by decide) (by decide) (Nat.le_of_ble_eq_true rfl) (Nat.le_of_ble_eq_true rfl) (Nat.le_of_ble_eq_true rfl) dX3_init_44 (fun q44 H hP hD hS => ?_)
  have hP : va_P D vwCl [(h0, .inr (3, [.ref q7, .ref q15, .ref q23, .int 0, .ref q36, .null, .null, .null])), (q7, .inl (cz 0, 8, .inl fun _ => 0)), (q15, .inl (cz 0, 8, .inl fun _ => 0)), (q23, .inl (cz 0, 8, .inl fun _ => 0)), (q36, .inl (cz 1, 8, .inr (.inl fun _ => 0))), (q44, .inl (cz 1, 8, .inr (.inl fun _ => 0)))] H := hP
  have hD : va_D A [(h0, .inr (3, [.ref q7, .ref q15, .ref q23, .int 0, .ref q36, .null, .null, .null])), (q7, .inl (cz 0, 8, .inl fun _ => 0)), (q15, .inl (cz 0, 8, .inl fun _ => 0)), (q23, .inl (cz 0, 8, .inl fun _ => 0)), (q36, .inl (cz 1, 8, .inr (.inl fun _ => 0))), (q44, .inl (cz 1, 8, .inr (.inl fun _ => 0)))] := hD
  refine ct_pf (ci := 3) hx hb hts am_ly3 tyX3 tyX3_ok nmX3 hown hin hK hP hD hS rfl 5 (by decide) wx_308 rfl rfl rfl (Nat.le_of_ble_eq_true rfl) dX3_init_46 (fun H locs hP hD hS => ?_)
  have hP : va_P D vwCl [(h0, .inr (3, [.ref q7, .ref q15, .ref q23, .int 0, .ref q36, .ref q44, .null, .null])), (q7, .inl (cz 0, 8, .inl fun _ => 0)), (q15, .inl (cz 0, 8, .inl fun _ => 0)), (q23, .inl (cz 0, 8, .inl fun _ => 0)), (q36, .inl (cz 1, 8, .inr (.inl fun _ => 0))), (q44, .inl (cz 1, 8, .inr (.inl fun _ => 0)))] H := hP
  have hD : va_D A [(h0, .inr (3, [.ref q7, .ref q15, .ref q23, .int 0, .ref q36, .ref q44, .null, .null])), (q7, .inl (cz 0, 8, .inl fun _ => 0)), (q15, .inl (cz 0, 8, .inl fun _ => 0)), (q23, .inl (cz 0, 8, .inl fun _ => 0)), (q36, .inl (cz 1, 8, .inr (.inl fun _ => 0))), (q44, .inl (cz 1, 8, .inr (.inl fun _ => 0)))] := hD
  refine lv_aload_n hx hb dX3_init_49 rfl (lv_at hl 0 rfl) ?_
  refine lv_bipush (v := 8) hx hb dX3_init_50 (by decide) ?_
  refine ct_az hx hb hts hK hP hD hS hA (n := 8) (N' := 8) (by decide) (by decide) (Nat.le_of_ble_eq_true rfl) (Nat.le_of_ble_eq_true rfl) (Nat.le_of_ble_eq_true rfl) dX3_init_52 (fun q52 H hP hD hS => ?_)
  have hP : va_P D vwCl [(h0, .inr (3, [.ref q7, .ref q15, .ref q23, .int 0, .ref q36, .ref q44, .null, .null])), (q7, .inl (cz 0, 8, .inl fun _ => 0)), (q15, .inl (cz 0, 8, .inl fun _ => 0)), (q23, .inl (cz 0, 8, .inl fun _ => 0)), (q36, .inl (cz 1, 8, .inr (.inl fun _ => 0))), (q44, .inl (cz 1, 8, .inr (.inl fun _ => 0))), (q52, .inl (cz 2, 8, .inl fun _ => 0))] H := hP
  have hD : va_D A [(h0, .inr (3, [.ref q7, .ref q15, .ref q23, .int 0, .ref q36, .ref q44, .null, .null])), (q7, .inl (cz 0, 8, .inl fun _ => 0)), (q15, .inl (cz 0, 8, .inl fun _ => 0)), (q23, .inl (cz 0, 8, .inl fun _ => 0)), (q36, .inl (cz 1, 8, .inr (.inl fun _ => 0))), (q44, .inl (cz 1, 8, .inr (.inl fun _ => 0))), (q52, .inl (cz 2, 8, .inl fun _ => 0))] := hD
  refine ct_pf (ci := 3) hx hb hts am_ly3 tyX3 tyX3_ok nmX3 hown hin hK hP hD hS rfl 6 (by decide) wx_309 rfl rfl rfl (Nat.le_of_ble_eq_true rfl) dX3_init_54 (fun H locs hP hD hS => ?_)
  have hP : va_P D vwCl [(h0, .inr (3, [.ref q7, .ref q15, .ref q23, .int 0, .ref q36, .ref q44, .ref q52, .null])), (q7, .inl (cz 0, 8, .inl fun _ => 0)), (q15, .inl (cz 0, 8, .inl fun _ => 0)), (q23, .inl (cz 0, 8, .inl fun _ => 0)), (q36, .inl (cz 1, 8, .inr (.inl fun _ => 0))), (q44, .inl (cz 1, 8, .inr (.inl fun _ => 0))), (q52, .inl (cz 2, 8, .inl fun _ => 0))] H := hP
  have hD : va_D A [(h0, .inr (3, [.ref q7, .ref q15, .ref q23, .int 0, .ref q36, .ref q44, .ref q52, .null])), (q7, .inl (cz 0, 8, .inl fun _ => 0)), (q15, .inl (cz 0, 8, .inl fun _ => 0)), (q23, .inl (cz 0, 8, .inl fun _ => 0)), (q36, .inl (cz 1, 8, .inr (.inl fun _ => 0))), (q44, .inl (cz 1, 8, .inr (.inl fun _ => 0))), (q52, .inl (cz 2, 8, .inl fun _ => 0))] := hD
  refine lv_aload_n hx hb dX3_init_57 rfl (lv_at hl 0 rfl) ?_
  refine lv_bipush (v := 8) hx hb dX3_init_58 (by decide) ?_
  refine ct_az hx hb hts hK hP hD hS hA (n := 8) (N' := 8) (by decide) (by decide) (Nat.le_of_ble_eq_true rfl) (Nat.le_of_ble_eq_true rfl) (Nat.le_of_ble_eq_true rfl) dX3_init_60 (fun q60 H hP hD hS => ?_)
  have hP : va_P D vwCl [(h0, .inr (3, [.ref q7, .ref q15, .ref q23, .int 0, .ref q36, .ref q44, .ref q52, .null])), (q7, .inl (cz 0, 8, .inl fun _ => 0)), (q15, .inl (cz 0, 8, .inl fun _ => 0)), (q23, .inl (cz 0, 8, .inl fun _ => 0)), (q36, .inl (cz 1, 8, .inr (.inl fun _ => 0))), (q44, .inl (cz 1, 8, .inr (.inl fun _ => 0))), (q52, .inl (cz 2, 8, .inl fun _ => 0)), (q60, .inl (cz 2, 8, .inl fun _ => 0))] H := hP
  have hD : va_D A [(h0, .inr (3, [.ref q7, .ref q15, .ref q23, .int 0, .ref q36, .ref q44, .ref q52, .null])), (q7, .inl (cz 0, 8, .inl fun _ => 0)), (q15, .inl (cz 0, 8, .inl fun _ => 0)), (q23, .inl (cz 0, 8, .inl fun _ => 0)), (q36, .inl (cz 1, 8, .inr (.inl fun _ => 0))), (q44, .inl (cz 1, 8, .inr (.inl fun _ => 0))), (q52, .inl (cz 2, 8, .inl fun _ => 0)), (q60, .inl (cz 2, 8, .inl fun _ => 0))] := hD
  refine ct_pf (ci := 3) hx hb hts am_ly3 tyX3 tyX3_ok nmX3 hown hin hK hP hD hS rfl 7 (by decide) wx_310 rfl rfl rfl (Nat.le_of_ble_eq_true rfl) dX3_init_62 (fun H locs hP hD hS => ?_)
  have hP : va_P D vwCl [(h0, .inr (3, [.ref q7, .ref q15, .ref q23, .int 0, .ref q36, .ref q44, .ref q52, .ref q60])), (q7, .inl (cz 0, 8, .inl fun _ => 0)), (q15, .inl (cz 0, 8, .inl fun _ => 0)), (q23, .inl (cz 0, 8, .inl fun _ => 0)), (q36, .inl (cz 1, 8, .inr (.inl fun _ => 0))), (q44, .inl (cz 1, 8, .inr (.inl fun _ => 0))), (q52, .inl (cz 2, 8, .inl fun _ => 0)), (q60, .inl (cz 2, 8, .inl fun _ => 0))] H := hP
  have hD : va_D A [(h0, .inr (3, [.ref q7, .ref q15, .ref q23, .int 0, .ref q36, .ref q44, .ref q52, .ref q60])), (q7, .inl (cz 0, 8, .inl fun _ => 0)), (q15, .inl (cz 0, 8, .inl fun _ => 0)), (q23, .inl (cz 0, 8, .inl fun _ => 0)), (q36, .inl (cz 1, 8, .inr (.inl fun _ => 0))), (q44, .inl (cz 1, 8, .inr (.inl fun _ => 0))), (q52, .inl (cz 2, 8, .inl fun _ => 0)), (q60, .inl (cz 2, 8, .inl fun _ => 0))] := hD
  refine W.widen (k := 7) (n := 56) (Nat.le_of_ble_eq_true rfl) (Nat.le_of_ble_eq_true rfl) ?_
  exact W.vret hx hb hr (fun t ht hW => ⟨⟨(fun k => ([h0, q7, q15, q23, q36, q44, q52, q60] : List Nat).getD k 0), rfl, trivial, rfl, by rw [ht]; exact hP, hD⟩, hS.F ht⟩) hS.2.2 dX3_init_65
abbrev fz6 : List Value := [.null, .null, .null, .null, .null, .null, .null, .int 0]
abbrev ff6 (cz : Nat → ClassId) (f : Nat → Nat) : va_W := [((f 0), .inr (6, [.ref (f 1), .ref (f 4), .ref (f 5), .ref (f 6), .ref (f 7), .ref (f 8), .ref (f 9), .int 0])), ((f 1), .inr (5, [.ref (f 2), .ref (f 3), .int 0, .int 0, .int 0, .int 0])), ((f 2), .inl (cz 0, 3, .inl fun _ => 0)), ((f 3), .inl (cz 1, 3, .inr (.inl fun _ => 0))), ((f 4), .inl (cz 0, 56, .inl fun _ => 0)), ((f 5), .inl (cz 0, 56, .inl fun _ => 0)), ((f 6), .inl (cz 0, 56, .inl fun _ => 0)), ((f 7), .inl (cz 0, 56, .inl fun _ => 0)), ((f 8), .inl (cz 0, 56, .inl fun _ => 0)), ((f 9), .inl (cz 0, 56, .inl fun _ => 0))]
set_option maxHeartbeats 4000000 in
set_option maxRecDepth 100000 in
theorem ct_X6 (l : Launch) (D : va_G) (cz : Nat → ClassId) : ct_Met l D cz yX6_init cX6_init 1 { frames := 2, cells := 9, slots := 348, locals := 32 } 9 348 6 fz6 (ff6 cz) := by
  intro h0 sz
  refine Met.ofW (cc := cX6_init) (maxL := 1) (ret := none) (by decide) rfl ?_
  intro p e s m args below meth c s₁ B hml hv
  obtain ⟨rfl, hsz, hP, hK, hD0⟩ := hv
  have hx := B.exec
  have hb := B.bytes
  have hr := B.returns
  have hts0 := atoms_spec (ws := Cond.code yX6_init cX6_init 1 none :: am_big) B.pre
  have hts : ∀ w ∈ am_big, w.before _ s = true := fun w hw => hts0 w (List.mem_cons_of_mem _ hw)
  have hown : s.vm.findClass RX6 = some m.cls := findClass_of_methodNamed B.named
  have hlocks := B.notSynchronized
  have hin : meth.name = "<init>" := (name_of_methodNamed B.named B.method).1
  subst hsz
  have hD := hD0.self (sz := s.heap.size)
  generalize hAe : va_A [(h0, .inr (6, fz6))] s.heap.size = A at hD ⊢
  have hA : ∀ q : Nat, s.heap.size ≤ q → A q := fun q h => by rw [← hAe]; exact Or.inr h
  have hS : va_S A s.heap s.heap [] := va_S.rf
  have hP : va_P D vwCl [(h0, .inr (6, [.null, .null, .null, .null, .null, .null, .null, .int 0]))] s.heap := hP
  have hl := lv_entry ([.ref h0]) (n := 1) (Nat.le_of_ble_eq_true rfl)
  rw [lg_entry_eq]
  generalize (lg_sl ([.ref h0]) ++ List.replicate (1 - (lg_sl ([.ref h0])).length) Slot.unset).toArray = ls at hl ⊢
  have hl : lv_has ls 1 [(0, .ref h0)] := hl
  refine lv_aload_n hx hb dX6_init_0 rfl (lv_at hl 0 rfl) ?_
  refine W.objInit hx hb hown (hts _ wx_178) (hts _ wx_74) (hts _ wx_75) rfl (by rw [hml]; exact hl.1) rfl dX6_init_1 (Nat.le_of_ble_eq_true rfl) (Nat.le_of_ble_eq_true rfl) ?_
  refine W.eq (g2 := F0 m 4 ls []) rfl ?_
  refine lv_aload_n hx hb dX6_init_4 rfl (lv_at hl 0 rfl) ?_
  refine ct_new (ci := 5) (fs0 := fz5) (mc := 2) (ms := 6) hx hb hml hts hown (ct_X5 l D cz) am_ly5 tyX5 tyX5_ok wx_179 wx_132 wx_58 rfl (by decide +kernel) rfl rfl wx_135 hK.2.1.2.2.2.2.2.1 wx_134 (by decide +kernel) rfl rfl ⟨Nat.le_of_ble_eq_true rfl, Nat.le_of_ble_eq_true rfl⟩ hK hP hD hS hA hl.1 (Nat.le_of_ble_eq_true rfl) (Nat.le_of_ble_eq_true rfl) (Nat.le_of_ble_eq_true rfl) dX6_init_5 dX6_init_8 dX6_init_9 (fun f5 H locs hP hD hS => ?_)
  have hP : va_P D vwCl [(h0, .inr (6, [.null, .null, .null, .null, .null, .null, .null, .int 0])), ((f5 0), .inr (5, [.ref (f5 1), .ref (f5 2), .int 0, .int 0, .int 0, .int 0])), ((f5 1), .inl (cz 0, 3, .inl fun _ => 0)), ((f5 2), .inl (cz 1, 3, .inr (.inl fun _ => 0)))] H := hP
  have hD : va_D A [(h0, .inr (6, [.null, .null, .null, .null, .null, .null, .null, .int 0])), ((f5 0), .inr (5, [.ref (f5 1), .ref (f5 2), .int 0, .int 0, .int 0, .int 0])), ((f5 1), .inl (cz 0, 3, .inl fun _ => 0)), ((f5 2), .inl (cz 1, 3, .inr (.inl fun _ => 0)))] := hD
  refine ct_pf (ci := 6) hx hb hts am_ly6 tyX6 tyX6_ok nmX6 hown hin hK hP hD hS rfl 0 (by decide) wx_181 rfl rfl rfl (Nat.le_of_ble_eq_true rfl) dX6_init_12 (fun H locs hP hD hS => ?_)
  have hP : va_P D vwCl [(h0, .inr (6, [.ref (f5 0), .null, .null, .null, .null, .null, .null, .int 0])), ((f5 0), .inr (5, [.ref (f5 1), .ref (f5 2), .int 0, .int 0, .int 0, .int 0])), ((f5 1), .inl (cz 0, 3, .inl fun _ => 0)), ((f5 2), .inl (cz 1, 3, .inr (.inl fun _ => 0)))] H := hP
  have hD : va_D A [(h0, .inr (6, [.ref (f5 0), .null, .null, .null, .null, .null, .null, .int 0])), ((f5 0), .inr (5, [.ref (f5 1), .ref (f5 2), .int 0, .int 0, .int 0, .int 0])), ((f5 1), .inl (cz 0, 3, .inl fun _ => 0)), ((f5 2), .inl (cz 1, 3, .inr (.inl fun _ => 0)))] := hD
  refine lv_aload_n hx hb dX6_init_15 rfl (lv_at hl 0 rfl) ?_
  refine lv_bipush (v := 56) hx hb dX6_init_16 (by decide) ?_
  refine ct_ai hx hb hts hK hP hD hS hA (n := 56) (N' := 56) (by decide) (by decide) (Nat.le_of_ble_eq_true rfl) (Nat.le_of_ble_eq_true rfl) (Nat.le_of_ble_eq_true rfl) dX6_init_18 (fun q18 H hP hD hS => ?_)
  have hP : va_P D vwCl [(h0, .inr (6, [.ref (f5 0), .null, .null, .null, .null, .null, .null, .int 0])), ((f5 0), .inr (5, [.ref (f5 1), .ref (f5 2), .int 0, .int 0, .int 0, .int 0])), ((f5 1), .inl (cz 0, 3, .inl fun _ => 0)), ((f5 2), .inl (cz 1, 3, .inr (.inl fun _ => 0))), (q18, .inl (cz 0, 56, .inl fun _ => 0))] H := hP
  have hD : va_D A [(h0, .inr (6, [.ref (f5 0), .null, .null, .null, .null, .null, .null, .int 0])), ((f5 0), .inr (5, [.ref (f5 1), .ref (f5 2), .int 0, .int 0, .int 0, .int 0])), ((f5 1), .inl (cz 0, 3, .inl fun _ => 0)), ((f5 2), .inl (cz 1, 3, .inr (.inl fun _ => 0))), (q18, .inl (cz 0, 56, .inl fun _ => 0))] := hD
  refine ct_pf (ci := 6) hx hb hts am_ly6 tyX6 tyX6_ok nmX6 hown hin hK hP hD hS rfl 1 (by decide) wx_182 rfl rfl rfl (Nat.le_of_ble_eq_true rfl) dX6_init_20 (fun H locs hP hD hS => ?_)
  have hP : va_P D vwCl [(h0, .inr (6, [.ref (f5 0), .ref q18, .null, .null, .null, .null, .null, .int 0])), ((f5 0), .inr (5, [.ref (f5 1), .ref (f5 2), .int 0, .int 0, .int 0, .int 0])), ((f5 1), .inl (cz 0, 3, .inl fun _ => 0)), ((f5 2), .inl (cz 1, 3, .inr (.inl fun _ => 0))), (q18, .inl (cz 0, 56, .inl fun _ => 0))] H := hP
  have hD : va_D A [(h0, .inr (6, [.ref (f5 0), .ref q18, .null, .null, .null, .null, .null, .int 0])), ((f5 0), .inr (5, [.ref (f5 1), .ref (f5 2), .int 0, .int 0, .int 0, .int 0])), ((f5 1), .inl (cz 0, 3, .inl fun _ => 0)), ((f5 2), .inl (cz 1, 3, .inr (.inl fun _ => 0))), (q18, .inl (cz 0, 56, .inl fun _ => 0))] := hD
  refine lv_aload_n hx hb dX6_init_23 rfl (lv_at hl 0 rfl) ?_
  refine lv_bipush (v := 56) hx hb dX6_init_24 (by decide) ?_
  refine ct_ai hx hb hts hK hP hD hS hA (n := 56) (N' := 56) (by decide) (by decide) (Nat.le_of_ble_eq_true rfl) (Nat.le_of_ble_eq_true rfl) (Nat.le_of_ble_eq_true rfl) dX6_init_26 (fun q26 H hP hD hS => ?_)
  have hP : va_P D vwCl [(h0, .inr (6, [.ref (f5 0), .ref q18, .null, .null, .null, .null, .null, .int 0])), ((f5 0), .inr (5, [.ref (f5 1), .ref (f5 2), .int 0, .int 0, .int 0, .int 0])), ((f5 1), .inl (cz 0, 3, .inl fun _ => 0)), ((f5 2), .inl (cz 1, 3, .inr (.inl fun _ => 0))), (q18, .inl (cz 0, 56, .inl fun _ => 0)), (q26, .inl (cz 0, 56, .inl fun _ => 0))] H := hP
  have hD : va_D A [(h0, .inr (6, [.ref (f5 0), .ref q18, .null, .null, .null, .null, .null, .int 0])), ((f5 0), .inr (5, [.ref (f5 1), .ref (f5 2), .int 0, .int 0, .int 0, .int 0])), ((f5 1), .inl (cz 0, 3, .inl fun _ => 0)), ((f5 2), .inl (cz 1, 3, .inr (.inl fun _ => 0))), (q18, .inl (cz 0, 56, .inl fun _ => 0)), (q26, .inl (cz 0, 56, .inl fun _ => 0))] := hD
  refine ct_pf (ci := 6) hx hb hts am_ly6 tyX6 tyX6_ok nmX6 hown hin hK hP hD hS rfl 2 (by decide) wx_184 rfl rfl rfl (Nat.le_of_ble_eq_true rfl) dX6_init_28 (fun H locs hP hD hS => ?_)
  have hP : va_P D vwCl [(h0, .inr (6, [.ref (f5 0), .ref q18, .ref q26, .null, .null, .null, .null, .int 0])), ((f5 0), .inr (5, [.ref (f5 1), .ref (f5 2), .int 0, .int 0, .int 0, .int 0])), ((f5 1), .inl (cz 0, 3, .inl fun _ => 0)), ((f5 2), .inl (cz 1, 3, .inr (.inl fun _ => 0))), (q18, .inl (cz 0, 56, .inl fun _ => 0)), (q26, .inl (cz 0, 56, .inl fun _ => 0))] H := hP
  have hD : va_D A [(h0, .inr (6, [.ref (f5 0), .ref q18, .ref q26, .null, .null, .null, .null, .int 0])), ((f5 0), .inr (5, [.ref (f5 1), .ref (f5 2), .int 0, .int 0, .int 0, .int 0])), ((f5 1), .inl (cz 0, 3, .inl fun _ => 0)), ((f5 2), .inl (cz 1, 3, .inr (.inl fun _ => 0))), (q18, .inl (cz 0, 56, .inl fun _ => 0)), (q26, .inl (cz 0, 56, .inl fun _ => 0))] := hD
  refine lv_aload_n hx hb dX6_init_31 rfl (lv_at hl 0 rfl) ?_
  refine lv_bipush (v := 56) hx hb dX6_init_32 (by decide) ?_
  refine ct_ai hx hb hts hK hP hD hS hA (n := 56) (N' := 56) (by decide) (by decide) (Nat.le_of_ble_eq_true rfl) (Nat.le_of_ble_eq_true rfl) (Nat.le_of_ble_eq_true rfl) dX6_init_34 (fun q34 H hP hD hS => ?_)
  have hP : va_P D vwCl [(h0, .inr (6, [.ref (f5 0), .ref q18, .ref q26, .null, .null, .null, .null, .int 0])), ((f5 0), .inr (5, [.ref (f5 1), .ref (f5 2), .int 0, .int 0, .int 0, .int 0])), ((f5 1), .inl (cz 0, 3, .inl fun _ => 0)), ((f5 2), .inl (cz 1, 3, .inr (.inl fun _ => 0))), (q18, .inl (cz 0, 56, .inl fun _ => 0)), (q26, .inl (cz 0, 56, .inl fun _ => 0)), (q34, .inl (cz 0, 56, .inl fun _ => 0))] H := hP
  have hD : va_D A [(h0, .inr (6, [.ref (f5 0), .ref q18, .ref q26, .null, .null, .null, .null, .int 0])), ((f5 0), .inr (5, [.ref (f5 1), .ref (f5 2), .int 0, .int 0, .int 0, .int 0])), ((f5 1), .inl (cz 0, 3, .inl fun _ => 0)), ((f5 2), .inl (cz 1, 3, .inr (.inl fun _ => 0))), (q18, .inl (cz 0, 56, .inl fun _ => 0)), (q26, .inl (cz 0, 56, .inl fun _ => 0)), (q34, .inl (cz 0, 56, .inl fun _ => 0))] := hD
  refine ct_pf (ci := 6) hx hb hts am_ly6 tyX6 tyX6_ok nmX6 hown hin hK hP hD hS rfl 3 (by decide) wx_186 rfl rfl rfl (Nat.le_of_ble_eq_true rfl) dX6_init_36 (fun H locs hP hD hS => ?_)
  have hP : va_P D vwCl [(h0, .inr (6, [.ref (f5 0), .ref q18, .ref q26, .ref q34, .null, .null, .null, .int 0])), ((f5 0), .inr (5, [.ref (f5 1), .ref (f5 2), .int 0, .int 0, .int 0, .int 0])), ((f5 1), .inl (cz 0, 3, .inl fun _ => 0)), ((f5 2), .inl (cz 1, 3, .inr (.inl fun _ => 0))), (q18, .inl (cz 0, 56, .inl fun _ => 0)), (q26, .inl (cz 0, 56, .inl fun _ => 0)), (q34, .inl (cz 0, 56, .inl fun _ => 0))] H := hP
  have hD : va_D A [(h0, .inr (6, [.ref (f5 0), .ref q18, .ref q26, .ref q34, .null, .null, .null, .int 0])), ((f5 0), .inr (5, [.ref (f5 1), .ref (f5 2), .int 0, .int 0, .int 0, .int 0])), ((f5 1), .inl (cz 0, 3, .inl fun _ => 0)), ((f5 2), .inl (cz 1, 3, .inr (.inl fun _ => 0))), (q18, .inl (cz 0, 56, .inl fun _ => 0)), (q26, .inl (cz 0, 56, .inl fun _ => 0)), (q34, .inl (cz 0, 56, .inl fun _ => 0))] := hD
  refine lv_aload_n hx hb dX6_init_39 rfl (lv_at hl 0 rfl) ?_
  refine lv_bipush (v := 56) hx hb dX6_init_40 (by decide) ?_
  refine ct_ai hx hb hts hK hP hD hS hA (n := 56) (N' := 56) (by decide) (by decide) (Nat.le_of_ble_eq_true rfl) (Nat.le_of_ble_eq_true rfl) (Nat.le_of_ble_eq_true rfl) dX6_init_42 (fun q42 H hP hD hS => ?_)
  have hP : va_P D vwCl [(h0, .inr (6, [.ref (f5 0), .ref q18, .ref q26, .ref q34, .null, .null, .null, .int 0])), ((f5 0), .inr (5, [.ref (f5 1), .ref (f5 2), .int 0, .int 0, .int 0, .int 0])), ((f5 1), .inl (cz 0, 3, .inl fun _ => 0)), ((f5 2), .inl (cz 1, 3, .inr (.inl fun _ => 0))), (q18, .inl (cz 0, 56, .inl fun _ => 0)), (q26, .inl (cz 0, 56, .inl fun _ => 0)), (q34, .inl (cz 0, 56, .inl fun _ => 0)), (q42, .inl (cz 0, 56, .inl fun _ => 0))] H := hP
  have hD : va_D A [(h0, .inr (6, [.ref (f5 0), .ref q18, .ref q26, .ref q34, .null, .null, .null, .int 0])), ((f5 0), .inr (5, [.ref (f5 1), .ref (f5 2), .int 0, .int 0, .int 0, .int 0])), ((f5 1), .inl (cz 0, 3, .inl fun _ => 0)), ((f5 2), .inl (cz 1, 3, .inr (.inl fun _ => 0))), (q18, .inl (cz 0, 56, .inl fun _ => 0)), (q26, .inl (cz 0, 56, .inl fun _ => 0)), (q34, .inl (cz 0, 56, .inl fun _ => 0)), (q42, .inl (cz 0, 56, .inl fun _ => 0))] := hD
  refine ct_pf (ci := 6) hx hb hts am_ly6 tyX6 tyX6_ok nmX6 hown hin hK hP hD hS rfl 4 (by decide) wx_188 rfl rfl rfl (Nat.le_of_ble_eq_true rfl) dX6_init_44 (fun H locs hP hD hS => ?_)
  have hP : va_P D vwCl [(h0, .inr (6, [.ref (f5 0), .ref q18, .ref q26, .ref q34, .ref q42, .null, .null, .int 0])), ((f5 0), .inr (5, [.ref (f5 1), .ref (f5 2), .int 0, .int 0, .int 0, .int 0])), ((f5 1), .inl (cz 0, 3, .inl fun _ => 0)), ((f5 2), .inl (cz 1, 3, .inr (.inl fun _ => 0))), (q18, .inl (cz 0, 56, .inl fun _ => 0)), (q26, .inl (cz 0, 56, .inl fun _ => 0)), (q34, .inl (cz 0, 56, .inl fun _ => 0)), (q42, .inl (cz 0, 56, .inl fun _ => 0))] H := hP
  have hD : va_D A [(h0, .inr (6, [.ref (f5 0), .ref q18, .ref q26, .ref q34, .ref q42, .null, .null, .int 0])), ((f5 0), .inr (5, [.ref (f5 1), .ref (f5 2), .int 0, .int 0, .int 0, .int 0])), ((f5 1), .inl (cz 0, 3, .inl fun _ => 0)), ((f5 2), .inl (cz 1, 3, .inr (.inl fun _ => 0))), (q18, .inl (cz 0, 56, .inl fun _ => 0)), (q26, .inl (cz 0, 56, .inl fun _ => 0)), (q34, .inl (cz 0, 56, .inl fun _ => 0)), (q42, .inl (cz 0, 56, .inl fun _ => 0))] := hD
  refine lv_aload_n hx hb dX6_init_47 rfl (lv_at hl 0 rfl) ?_
  refine lv_bipush (v := 56) hx hb dX6_init_48 (by decide) ?_
  refine ct_ai hx hb hts hK hP hD hS hA (n := 56) (N' := 56) (by decide) (by decide) (Nat.le_of_ble_eq_true rfl) (Nat.le_of_ble_eq_true rfl) (Nat.le_of_ble_eq_true rfl) dX6_init_50 (fun q50 H hP hD hS => ?_)
  have hP : va_P D vwCl [(h0, .inr (6, [.ref (f5 0), .ref q18, .ref q26, .ref q34, .ref q42, .null, .null, .int 0])), ((f5 0), .inr (5, [.ref (f5 1), .ref (f5 2), .int 0, .int 0, .int 0, .int 0])), ((f5 1), .inl (cz 0, 3, .inl fun _ => 0)), ((f5 2), .inl (cz 1, 3, .inr (.inl fun _ => 0))), (q18, .inl (cz 0, 56, .inl fun _ => 0)), (q26, .inl (cz 0, 56, .inl fun _ => 0)), (q34, .inl (cz 0, 56, .inl fun _ => 0)), (q42, .inl (cz 0, 56, .inl fun _ => 0)), (q50, .inl (cz 0, 56, .inl fun _ => 0))] H := hP
  have hD : va_D A [(h0, .inr (6, [.ref (f5 0), .ref q18, .ref q26, .ref q34, .ref q42, .null, .null, .int 0])), ((f5 0), .inr (5, [.ref (f5 1), .ref (f5 2), .int 0, .int 0, .int 0, .int 0])), ((f5 1), .inl (cz 0, 3, .inl fun _ => 0)), ((f5 2), .inl (cz 1, 3, .inr (.inl fun _ => 0))), (q18, .inl (cz 0, 56, .inl fun _ => 0)), (q26, .inl (cz 0, 56, .inl fun _ => 0)), (q34, .inl (cz 0, 56, .inl fun _ => 0)), (q42, .inl (cz 0, 56, .inl fun _ => 0)), (q50, .inl (cz 0, 56, .inl fun _ => 0))] := hD
  refine ct_pf (ci := 6) hx hb hts am_ly6 tyX6 tyX6_ok nmX6 hown hin hK hP hD hS rfl 5 (by decide) wx_190 rfl rfl rfl (Nat.le_of_ble_eq_true rfl) dX6_init_52 (fun H locs hP hD hS => ?_)
  have hP : va_P D vwCl [(h0, .inr (6, [.ref (f5 0), .ref q18, .ref q26, .ref q34, .ref q42, .ref q50, .null, .int 0])), ((f5 0), .inr (5, [.ref (f5 1), .ref (f5 2), .int 0, .int 0, .int 0, .int 0])), ((f5 1), .inl (cz 0, 3, .inl fun _ => 0)), ((f5 2), .inl (cz 1, 3, .inr (.inl fun _ => 0))), (q18, .inl (cz 0, 56, .inl fun _ => 0)), (q26, .inl (cz 0, 56, .inl fun _ => 0)), (q34, .inl (cz 0, 56, .inl fun _ => 0)), (q42, .inl (cz 0, 56, .inl fun _ => 0)), (q50, .inl (cz 0, 56, .inl fun _ => 0))] H := hP
  have hD : va_D A [(h0, .inr (6, [.ref (f5 0), .ref q18, .ref q26, .ref q34, .ref q42, .ref q50, .null, .int 0])), ((f5 0), .inr (5, [.ref (f5 1), .ref (f5 2), .int 0, .int 0, .int 0, .int 0])), ((f5 1), .inl (cz 0, 3, .inl fun _ => 0)), ((f5 2), .inl (cz 1, 3, .inr (.inl fun _ => 0))), (q18, .inl (cz 0, 56, .inl fun _ => 0)), (q26, .inl (cz 0, 56, .inl fun _ => 0)), (q34, .inl (cz 0, 56, .inl fun _ => 0)), (q42, .inl (cz 0, 56, .inl fun _ => 0)), (q50, .inl (cz 0, 56, .inl fun _ => 0))] := hD
  refine lv_aload_n hx hb dX6_init_55 rfl (lv_at hl 0 rfl) ?_
  refine lv_bipush (v := 56) hx hb dX6_init_56 (by decide) ?_
  refine ct_ai hx hb hts hK hP hD hS hA (n := 56) (N' := 56) (by decide) (by decide) (Nat.le_of_ble_eq_true rfl) (Nat.le_of_ble_eq_true rfl) (Nat.le_of_ble_eq_true rfl) dX6_init_58 (fun q58 H hP hD hS => ?_)
  have hP : va_P D vwCl [(h0, .inr (6, [.ref (f5 0), .ref q18, .ref q26, .ref q34, .ref q42, .ref q50, .null, .int 0])), ((f5 0), .inr (5, [.ref (f5 1), .ref (f5 2), .int 0, .int 0, .int 0, .int 0])), ((f5 1), .inl (cz 0, 3, .inl fun _ => 0)), ((f5 2), .inl (cz 1, 3, .inr (.inl fun _ => 0))), (q18, .inl (cz 0, 56, .inl fun _ => 0)), (q26, .inl (cz 0, 56, .inl fun _ => 0)), (q34, .inl (cz 0, 56, .inl fun _ => 0)), (q42, .inl (cz 0, 56, .inl fun _ => 0)), (q50, .inl (cz 0, 56, .inl fun _ => 0)), (q58, .inl (cz 0, 56, .inl fun _ => 0))] H := hP
  have hD : va_D A [(h0, .inr (6, [.ref (f5 0), .ref q18, .ref q26, .ref q34, .ref q42, .ref q50, .null, .int 0])), ((f5 0), .inr (5, [.ref (f5 1), .ref (f5 2), .int 0, .int 0, .int 0, .int 0])), ((f5 1), .inl (cz 0, 3, .inl fun _ => 0)), ((f5 2), .inl (cz 1, 3, .inr (.inl fun _ => 0))), (q18, .inl (cz 0, 56, .inl fun _ => 0)), (q26, .inl (cz 0, 56, .inl fun _ => 0)), (q34, .inl (cz 0, 56, .inl fun _ => 0)), (q42, .inl (cz 0, 56, .inl fun _ => 0)), (q50, .inl (cz 0, 56, .inl fun _ => 0)), (q58, .inl (cz 0, 56, .inl fun _ => 0))] := hD
  refine ct_pf (ci := 6) hx hb hts am_ly6 tyX6 tyX6_ok nmX6 hown hin hK hP hD hS rfl 6 (by decide) wx_192 rfl rfl rfl (Nat.le_of_ble_eq_true rfl) dX6_init_60 (fun H locs hP hD hS => ?_)
  have hP : va_P D vwCl [(h0, .inr (6, [.ref (f5 0), .ref q18, .ref q26, .ref q34, .ref q42, .ref q50, .ref q58, .int 0])), ((f5 0), .inr (5, [.ref (f5 1), .ref (f5 2), .int 0, .int 0, .int 0, .int 0])), ((f5 1), .inl (cz 0, 3, .inl fun _ => 0)), ((f5 2), .inl (cz 1, 3, .inr (.inl fun _ => 0))), (q18, .inl (cz 0, 56, .inl fun _ => 0)), (q26, .inl (cz 0, 56, .inl fun _ => 0)), (q34, .inl (cz 0, 56, .inl fun _ => 0)), (q42, .inl (cz 0, 56, .inl fun _ => 0)), (q50, .inl (cz 0, 56, .inl fun _ => 0)), (q58, .inl (cz 0, 56, .inl fun _ => 0))] H := hP
  have hD : va_D A [(h0, .inr (6, [.ref (f5 0), .ref q18, .ref q26, .ref q34, .ref q42, .ref q50, .ref q58, .int 0])), ((f5 0), .inr (5, [.ref (f5 1), .ref (f5 2), .int 0, .int 0, .int 0, .int 0])), ((f5 1), .inl (cz 0, 3, .inl fun _ => 0)), ((f5 2), .inl (cz 1, 3, .inr (.inl fun _ => 0))), (q18, .inl (cz 0, 56, .inl fun _ => 0)), (q26, .inl (cz 0, 56, .inl fun _ => 0)), (q34, .inl (cz 0, 56, .inl fun _ => 0)), (q42, .inl (cz 0, 56, .inl fun _ => 0)), (q50, .inl (cz 0, 56, .inl fun _ => 0)), (q58, .inl (cz 0, 56, .inl fun _ => 0))] := hD
  refine lv_aload_n hx hb dX6_init_63 rfl (lv_at hl 0 rfl) ?_
  refine lv_iconst (v := 0) hx hb dX6_init_64 (by decide) ?_
  refine ct_pf (ci := 6) hx hb hts am_ly6 tyX6 tyX6_ok nmX6 hown hin hK hP hD hS rfl 7 (by decide) wx_194 rfl rfl rfl (Nat.le_of_ble_eq_true rfl) dX6_init_65 (fun H locs hP hD hS => ?_)
  have hP : va_P D vwCl [(h0, .inr (6, [.ref (f5 0), .ref q18, .ref q26, .ref q34, .ref q42, .ref q50, .ref q58, .int 0])), ((f5 0), .inr (5, [.ref (f5 1), .ref (f5 2), .int 0, .int 0, .int 0, .int 0])), ((f5 1), .inl (cz 0, 3, .inl fun _ => 0)), ((f5 2), .inl (cz 1, 3, .inr (.inl fun _ => 0))), (q18, .inl (cz 0, 56, .inl fun _ => 0)), (q26, .inl (cz 0, 56, .inl fun _ => 0)), (q34, .inl (cz 0, 56, .inl fun _ => 0)), (q42, .inl (cz 0, 56, .inl fun _ => 0)), (q50, .inl (cz 0, 56, .inl fun _ => 0)), (q58, .inl (cz 0, 56, .inl fun _ => 0))] H := hP
  have hD : va_D A [(h0, .inr (6, [.ref (f5 0), .ref q18, .ref q26, .ref q34, .ref q42, .ref q50, .ref q58, .int 0])), ((f5 0), .inr (5, [.ref (f5 1), .ref (f5 2), .int 0, .int 0, .int 0, .int 0])), ((f5 1), .inl (cz 0, 3, .inl fun _ => 0)), ((f5 2), .inl (cz 1, 3, .inr (.inl fun _ => 0))), (q18, .inl (cz 0, 56, .inl fun _ => 0)), (q26, .inl (cz 0, 56, .inl fun _ => 0)), (q34, .inl (cz 0, 56, .inl fun _ => 0)), (q42, .inl (cz 0, 56, .inl fun _ => 0)), (q50, .inl (cz 0, 56, .inl fun _ => 0)), (q58, .inl (cz 0, 56, .inl fun _ => 0))] := hD
  refine W.widen (k := 9) (n := 348) (Nat.le_of_ble_eq_true rfl) (Nat.le_of_ble_eq_true rfl) ?_
  exact W.vret hx hb hr (fun t ht hW => ⟨⟨(fun k => ([h0, (f5 0), (f5 1), (f5 2), q18, q26, q34, q42, q50, q58] : List Nat).getD k 0), rfl, trivial, rfl, by rw [ht]; exact hP, hD⟩, hS.F ht⟩) hS.2.2 dX6_init_68
abbrev fz0 : List Value := [.null, .null, .null, .int 0]
abbrev ff0 (cz : Nat → ClassId) (f : Nat → Nat) : va_W := [((f 0), .inr (0, [.ref (f 1), .ref (f 11), .ref (f 21), .int 0])), ((f 1), .inr (6, [.ref (f 2), .ref (f 5), .ref (f 6), .ref (f 7), .ref (f 8), .ref (f 9), .ref (f 10), .int 0])), ((f 2), .inr (5, [.ref (f 3), .ref (f 4), .int 0, .int 0, .int 0, .int 0])), ((f 3), .inl (cz 0, 3, .inl fun _ => 0)), ((f 4), .inl (cz 1, 3, .inr (.inl fun _ => 0))), ((f 5), .inl (cz 0, 56, .inl fun _ => 0)), ((f 6), .inl (cz 0, 56, .inl fun _ => 0)), ((f 7), .inl (cz 0, 56, .inl fun _ => 0)), ((f 8), .inl (cz 0, 56, .inl fun _ => 0)), ((f 9), .inl (cz 0, 56, .inl fun _ => 0)), ((f 10), .inl (cz 0, 56, .inl fun _ => 0)), ((f 11), .inr (6, [.ref (f 12), .ref (f 15), .ref (f 16), .ref (f 17), .ref (f 18), .ref (f 19), .ref (f 20), .int 0])), ((f 12), .inr (5, [.ref (f 13), .ref (f 14), .int 0, .int 0, .int 0, .int 0])), ((f 13), .inl (cz 0, 3, .inl fun _ => 0)), ((f 14), .inl (cz 1, 3, .inr (.inl fun _ => 0))), ((f 15), .inl (cz 0, 56, .inl fun _ => 0)), ((f 16), .inl (cz 0, 56, .inl fun _ => 0)), ((f 17), .inl (cz 0, 56, .inl fun _ => 0)), ((f 18), .inl (cz 0, 56, .inl fun _ => 0)), ((f 19), .inl (cz 0, 56, .inl fun _ => 0)), ((f 20), .inl (cz 0, 56, .inl fun _ => 0)), ((f 21), .inl (cz 0, 64, .inl fun _ => 0))]
set_option maxHeartbeats 4000000 in
set_option maxRecDepth 100000 in
theorem ct_X0 (l : Launch) (D : va_G) (cz : Nat → ClassId) : ct_Met l D cz yX0_init cX0_init 1 { frames := 3, cells := 21, slots := 776, locals := 52 } 21 776 0 fz0 (ff0 cz) := by
  intro h0 sz
  refine Met.ofW (cc := cX0_init) (maxL := 1) (ret := none) (by decide) rfl ?_
  intro p e s m args below meth c s₁ B hml hv
  obtain ⟨rfl, hsz, hP, hK, hD0⟩ := hv
  have hx := B.exec
  have hb := B.bytes
  have hr := B.returns
  have hts0 := atoms_spec (ws := Cond.code yX0_init cX0_init 1 none :: am_big) B.pre
  have hts : ∀ w ∈ am_big, w.before _ s = true := fun w hw => hts0 w (List.mem_cons_of_mem _ hw)
  have hown : s.vm.findClass RX0 = some m.cls := findClass_of_methodNamed B.named
  have hlocks := B.notSynchronized
  have hin : meth.name = "<init>" := (name_of_methodNamed B.named B.method).1
  subst hsz
  have hD := hD0.self (sz := s.heap.size)
  generalize hAe : va_A [(h0, .inr (0, fz0))] s.heap.size = A at hD ⊢
  have hA : ∀ q : Nat, s.heap.size ≤ q → A q := fun q h => by rw [← hAe]; exact Or.inr h
  have hS : va_S A s.heap s.heap [] := va_S.rf
  have hP : va_P D vwCl [(h0, .inr (0, [.null, .null, .null, .int 0]))] s.heap := hP
  have hl := lv_entry ([.ref h0]) (n := 1) (Nat.le_of_ble_eq_true rfl)
  rw [lg_entry_eq]
  generalize (lg_sl ([.ref h0]) ++ List.replicate (1 - (lg_sl ([.ref h0])).length) Slot.unset).toArray = ls at hl ⊢
  have hl : lv_has ls 1 [(0, .ref h0)] := hl
  refine lv_aload_n hx hb dX0_init_0 rfl (lv_at hl 0 rfl) ?_
  refine W.objInit hx hb hown (hts _ wx_172) (hts _ wx_74) (hts _ wx_75) rfl (by rw [hml]; exact hl.1) rfl dX0_init_1 (Nat.le_of_ble_eq_true rfl) (Nat.le_of_ble_eq_true rfl) ?_
  refine W.eq (g2 := F0 m 4 ls []) rfl ?_
  refine lv_aload_n hx hb dX0_init_4 rfl (lv_at hl 0 rfl) ?_
  refine ct_new (ci := 6) (fs0 := fz6) (mc := 9) (ms := 348) hx hb hml hts hown (ct_X6 l D cz) am_ly6 tyX6 tyX6_ok wx_173 wx_174 wx_60 rfl (by decide +kernel) rfl rfl wx_177 hK.2.1.2.2.2.2.1 wx_176 (by decide +kernel) rfl rfl ⟨Nat.le_of_ble_eq_true rfl, Nat.le_of_ble_eq_true rfl⟩ hK hP hD hS hA hl.1 (Nat.le_of_ble_eq_true rfl) (Nat.le_of_ble_eq_true rfl) (Nat.le_of_ble_eq_true rfl) dX0_init_5 dX0_init_8 dX0_init_9 (fun f5 H locs hP hD hS => ?_)
  have hP : va_P D vwCl [(h0, .inr (0, [.null, .null, .null, .int 0])), ((f5 0), .inr (6, [.ref (f5 1), .ref (f5 4), .ref (f5 5), .ref (f5 6), .ref (f5 7), .ref (f5 8), .ref (f5 9), .int 0])), ((f5 1), .inr (5, [.ref (f5 2), .ref (f5 3), .int 0, .int 0, .int 0, .int 0])), ((f5 2), .inl (cz 0, 3, .inl fun _ => 0)), ((f5 3), .inl (cz 1, 3, .inr (.inl fun _ => 0))), ((f5 4), .inl (cz 0, 56, .inl fun _ => 0)), ((f5 5), .inl (cz 0, 56, .inl fun _ => 0)), ((f5 6), .inl (cz 0, 56, .inl fun _ => 0)), ((f5 7), .inl (cz 0, 56, .inl fun _ => 0)), ((f5 8), .inl (cz 0, 56, .inl fun _ => 0)), ((f5 9), .inl (cz 0, 56, .inl fun _ => 0))] H := hP
  have hD : va_D A [(h0, .inr (0, [.null, .null, .null, .int 0])), ((f5 0), .inr (6, [.ref (f5 1), .ref (f5 4), .ref (f5 5), .ref (f5 6), .ref (f5 7), .ref (f5 8), .ref (f5 9), .int 0])), ((f5 1), .inr (5, [.ref (f5 2), .ref (f5 3), .int 0, .int 0, .int 0, .int 0])), ((f5 2), .inl (cz 0, 3, .inl fun _ => 0)), ((f5 3), .inl (cz 1, 3, .inr (.inl fun _ => 0))), ((f5 4), .inl (cz 0, 56, .inl fun _ => 0)), ((f5 5), .inl (cz 0, 56, .inl fun _ => 0)), ((f5 6), .inl (cz 0, 56, .inl fun _ => 0)), ((f5 7), .inl (cz 0, 56, .inl fun _ => 0)), ((f5 8), .inl (cz 0, 56, .inl fun _ => 0)), ((f5 9), .inl (cz 0, 56, .inl fun _ => 0))] := hD
  refine ct_pf (ci := 0) hx hb hts am_ly0 tyX0 tyX0_ok nmX0 hown hin hK hP hD hS rfl 0 (by decide) wx_213 rfl rfl rfl (Nat.le_of_ble_eq_true rfl) dX0_init_12 (fun H locs hP hD hS => ?_)
  have hP : va_P D vwCl [(h0, .inr (0, [.ref (f5 0), .null, .null, .int 0])), ((f5 0), .inr (6, [.ref (f5 1), .ref (f5 4), .ref (f5 5), .ref (f5 6), .ref (f5 7), .ref (f5 8), .ref (f5 9), .int 0])), ((f5 1), .inr (5, [.ref (f5 2), .ref (f5 3), .int 0, .int 0, .int 0, .int 0])), ((f5 2), .inl (cz 0, 3, .inl fun _ => 0)), ((f5 3), .inl (cz 1, 3, .inr (.inl fun _ => 0))), ((f5 4), .inl (cz 0, 56, .inl fun _ => 0)), ((f5 5), .inl (cz 0, 56, .inl fun _ => 0)), ((f5 6), .inl (cz 0, 56, .inl fun _ => 0)), ((f5 7), .inl (cz 0, 56, .inl fun _ => 0)), ((f5 8), .inl (cz 0, 56, .inl fun _ => 0)), ((f5 9), .inl (cz 0, 56, .inl fun _ => 0))] H := hP
  have hD : va_D A [(h0, .inr (0, [.ref (f5 0), .null, .null, .int 0])), ((f5 0), .inr (6, [.ref (f5 1), .ref (f5 4), .ref (f5 5), .ref (f5 6), .ref (f5 7), .ref (f5 8), .ref (f5 9), .int 0])), ((f5 1), .inr (5, [.ref (f5 2), .ref (f5 3), .int 0, .int 0, .int 0, .int 0])), ((f5 2), .inl (cz 0, 3, .inl fun _ => 0)), ((f5 3), .inl (cz 1, 3, .inr (.inl fun _ => 0))), ((f5 4), .inl (cz 0, 56, .inl fun _ => 0)), ((f5 5), .inl (cz 0, 56, .inl fun _ => 0)), ((f5 6), .inl (cz 0, 56, .inl fun _ => 0)), ((f5 7), .inl (cz 0, 56, .inl fun _ => 0)), ((f5 8), .inl (cz 0, 56, .inl fun _ => 0)), ((f5 9), .inl (cz 0, 56, .inl fun _ => 0))] := hD
  refine lv_aload_n hx hb dX0_init_15 rfl (lv_at hl 0 rfl) ?_
  refine ct_new (ci := 6) (fs0 := fz6) (mc := 9) (ms := 348) hx hb hml hts hown (ct_X6 l D cz) am_ly6 tyX6 tyX6_ok wx_173 wx_174 wx_60 rfl (by decide +kernel) rfl rfl wx_177 hK.2.1.2.2.2.2.1 wx_176 (by decide +kernel) rfl rfl ⟨Nat.le_of_ble_eq_true rfl, Nat.le_of_ble_eq_true rfl⟩ hK hP hD hS hA hl.1 (Nat.le_of_ble_eq_true rfl) (Nat.le_of_ble_eq_true rfl) (Nat.le_of_ble_eq_true rfl) dX0_init_16 dX0_init_19 dX0_init_20 (fun f16 H locs hP hD hS => ?_)
  have hP : va_P D vwCl [(h0, .inr (0, [.ref (f5 0), .null, .null, .int 0])), ((f5 0), .inr (6, [.ref (f5 1), .ref (f5 4), .ref (f5 5), .ref (f5 6), .ref (f5 7), .ref (f5 8), .ref (f5 9), .int 0])), ((f5 1), .inr (5, [.ref (f5 2), .ref (f5 3), .int 0, .int 0, .int 0, .int 0])), ((f5 2), .inl (cz 0, 3, .inl fun _ => 0)), ((f5 3), .inl (cz 1, 3, .inr (.inl fun _ => 0))), ((f5 4), .inl (cz 0, 56, .inl fun _ => 0)), ((f5 5), .inl (cz 0, 56, .inl fun _ => 0)), ((f5 6), .inl (cz 0, 56, .inl fun _ => 0)), ((f5 7), .inl (cz 0, 56, .inl fun _ => 0)), ((f5 8), .inl (cz 0, 56, .inl fun _ => 0)), ((f5 9), .inl (cz 0, 56, .inl fun _ => 0)), ((f16 0), .inr (6, [.ref (f16 1), .ref (f16 4), .ref (f16 5), .ref (f16 6), .ref (f16 7), .ref (f16 8), .ref (f16 9), .int 0])), ((f16 1), .inr (5, [.ref (f16 2), .ref (f16 3), .int 0, .int 0, .int 0, .int 0])), ((f16 2), .inl (cz 0, 3, .inl fun _ => 0)), ((f16 3), .inl (cz 1, 3, .inr (.inl fun _ => 0))), ((f16 4), .inl (cz 0, 56, .inl fun _ => 0)), ((f16 5), .inl (cz 0, 56, .inl fun _ => 0)), ((f16 6), .inl (cz 0, 56, .inl fun _ => 0)), ((f16 7), .inl (cz 0, 56, .inl fun _ => 0)), ((f16 8), .inl (cz 0, 56, .inl fun _ => 0)), ((f16 9), .inl (cz 0, 56, .inl fun _ => 0))] H := hP
  have hD : va_D A [(h0, .inr (0, [.ref (f5 0), .null, .null, .int 0])), ((f5 0), .inr (6, [.ref (f5 1), .ref (f5 4), .ref (f5 5), .ref (f5 6), .ref (f5 7), .ref (f5 8), .ref (f5 9), .int 0])), ((f5 1), .inr (5, [.ref (f5 2), .ref (f5 3), .int 0, .int 0, .int 0, .int 0])), ((f5 2), .inl (cz 0, 3, .inl fun _ => 0)), ((f5 3), .inl (cz 1, 3, .inr (.inl fun _ => 0))), ((f5 4), .inl (cz 0, 56, .inl fun _ => 0)), ((f5 5), .inl (cz 0, 56, .inl fun _ => 0)), ((f5 6), .inl (cz 0, 56, .inl fun _ => 0)), ((f5 7), .inl (cz 0, 56, .inl fun _ => 0)), ((f5 8), .inl (cz 0, 56, .inl fun _ => 0)), ((f5 9), .inl (cz 0, 56, .inl fun _ => 0)), ((f16 0), .inr (6, [.ref (f16 1), .ref (f16 4), .ref (f16 5), .ref (f16 6), .ref (f16 7), .ref (f16 8), .ref (f16 9), .int 0])), ((f16 1), .inr (5, [.ref (f16 2), .ref (f16 3), .int 0, .int 0, .int 0, .int 0])), ((f16 2), .inl (cz 0, 3, .inl fun _ => 0)), ((f16 3), .inl (cz 1, 3, .inr (.inl fun _ => 0))), ((f16 4), .inl (cz 0, 56, .inl fun _ => 0)), ((f16 5), .inl (cz 0, 56, .inl fun _ => 0)), ((f16 6), .inl (cz 0, 56, .inl fun _ => 0)), ((f16 7), .inl (cz 0, 56, .inl fun _ => 0)), ((f16 8), .inl (cz 0, 56, .inl fun _ => 0)), ((f16 9), .inl (cz 0, 56, .inl fun _ => 0))] := hD
  refine ct_pf (ci := 0) hx hb hts am_ly0 tyX0 tyX0_ok nmX0 hown hin hK hP hD hS rfl 1 (by decide) wx_214 rfl rfl rfl (Nat.le_of_ble_eq_true rfl) dX0_init_23 (fun H locs hP hD hS => ?_)
  have hP : va_P D vwCl [(h0, .inr (0, [.ref (f5 0), .ref (f16 0), .null, .int 0])), ((f5 0), .inr (6, [.ref (f5 1), .ref (f5 4), .ref (f5 5), .ref (f5 6), .ref (f5 7), .ref (f5 8), .ref (f5 9), .int 0])), ((f5 1), .inr (5, [.ref (f5 2), .ref (f5 3), .int 0, .int 0, .int 0, .int 0])), ((f5 2), .inl (cz 0, 3, .inl fun _ => 0)), ((f5 3), .inl (cz 1, 3, .inr (.inl fun _ => 0))), ((f5 4), .inl (cz 0, 56, .inl fun _ => 0)), ((f5 5), .inl (cz 0, 56, .inl fun _ => 0)), ((f5 6), .inl (cz 0, 56, .inl fun _ => 0)), ((f5 7), .inl (cz 0, 56, .inl fun _ => 0)), ((f5 8), .inl (cz 0, 56, .inl fun _ => 0)), ((f5 9), .inl (cz 0, 56, .inl fun _ => 0)), ((f16 0), .inr (6, [.ref (f16 1), .ref (f16 4), .ref (f16 5), .ref (f16 6), .ref (f16 7), .ref (f16 8), .ref (f16 9), .int 0])), ((f16 1), .inr (5, [.ref (f16 2), .ref (f16 3), .int 0, .int 0, .int 0, .int 0])), ((f16 2), .inl (cz 0, 3, .inl fun _ => 0)), ((f16 3), .inl (cz 1, 3, .inr (.inl fun _ => 0))), ((f16 4), .inl (cz 0, 56, .inl fun _ => 0)), ((f16 5), .inl (cz 0, 56, .inl fun _ => 0)), ((f16 6), .inl (cz 0, 56, .inl fun _ => 0)), ((f16 7), .inl (cz 0, 56, .inl fun _ => 0)), ((f16 8), .inl (cz 0, 56, .inl fun _ => 0)), ((f16 9), .inl (cz 0, 56, .inl fun _ => 0))] H := hP
  have hD : va_D A [(h0, .inr (0, [.ref (f5 0), .ref (f16 0), .null, .int 0])), ((f5 0), .inr (6, [.ref (f5 1), .ref (f5 4), .ref (f5 5), .ref (f5 6), .ref (f5 7), .ref (f5 8), .ref (f5 9), .int 0])), ((f5 1), .inr (5, [.ref (f5 2), .ref (f5 3), .int 0, .int 0, .int 0, .int 0])), ((f5 2), .inl (cz 0, 3, .inl fun _ => 0)), ((f5 3), .inl (cz 1, 3, .inr (.inl fun _ => 0))), ((f5 4), .inl (cz 0, 56, .inl fun _ => 0)), ((f5 5), .inl (cz 0, 56, .inl fun _ => 0)), ((f5 6), .inl (cz 0, 56, .inl fun _ => 0)), ((f5 7), .inl (cz 0, 56, .inl fun _ => 0)), ((f5 8), .inl (cz 0, 56, .inl fun _ => 0)), ((f5 9), .inl (cz 0, 56, .inl fun _ => 0)), ((f16 0), .inr (6, [.ref (f16 1), .ref (f16 4), .ref (f16 5), .ref (f16 6), .ref (f16 7), .ref (f16 8), .ref (f16 9), .int 0])), ((f16 1), .inr (5, [.ref (f16 2), .ref (f16 3), .int 0, .int 0, .int 0, .int 0])), ((f16 2), .inl (cz 0, 3, .inl fun _ => 0)), ((f16 3), .inl (cz 1, 3, .inr (.inl fun _ => 0))), ((f16 4), .inl (cz 0, 56, .inl fun _ => 0)), ((f16 5), .inl (cz 0, 56, .inl fun _ => 0)), ((f16 6), .inl (cz 0, 56, .inl fun _ => 0)), ((f16 7), .inl (cz 0, 56, .inl fun _ => 0)), ((f16 8), .inl (cz 0, 56, .inl fun _ => 0)), ((f16 9), .inl (cz 0, 56, .inl fun _ => 0))] := hD
  refine lv_aload_n hx hb dX0_init_26 rfl (lv_at hl 0 rfl) ?_
  refine lv_bipush (v := 64) hx hb dX0_init_27 (by decide) ?_
  refine ct_ai hx hb hts hK hP hD hS hA (n := 64) (N' := 64) (by decide) (by decide) (Nat.le_of_ble_eq_true rfl) (Nat.le_of_ble_eq_true rfl) (Nat.le_of_ble_eq_true rfl) dX0_init_29 (fun q29 H hP hD hS => ?_)
  have hP : va_P D vwCl [(h0, .inr (0, [.ref (f5 0), .ref (f16 0), .null, .int 0])), ((f5 0), .inr (6, [.ref (f5 1), .ref (f5 4), .ref (f5 5), .ref (f5 6), .ref (f5 7), .ref (f5 8), .ref (f5 9), .int 0])), ((f5 1), .inr (5, [.ref (f5 2), .ref (f5 3), .int 0, .int 0, .int 0, .int 0])), ((f5 2), .inl (cz 0, 3, .inl fun _ => 0)), ((f5 3), .inl (cz 1, 3, .inr (.inl fun _ => 0))), ((f5 4), .inl (cz 0, 56, .inl fun _ => 0)), ((f5 5), .inl (cz 0, 56, .inl fun _ => 0)), ((f5 6), .inl (cz 0, 56, .inl fun _ => 0)), ((f5 7), .inl (cz 0, 56, .inl fun _ => 0)), ((f5 8), .inl (cz 0, 56, .inl fun _ => 0)), ((f5 9), .inl (cz 0, 56, .inl fun _ => 0)), ((f16 0), .inr (6, [.ref (f16 1), .ref (f16 4), .ref (f16 5), .ref (f16 6), .ref (f16 7), .ref (f16 8), .ref (f16 9), .int 0])), ((f16 1), .inr (5, [.ref (f16 2), .ref (f16 3), .int 0, .int 0, .int 0, .int 0])), ((f16 2), .inl (cz 0, 3, .inl fun _ => 0)), ((f16 3), .inl (cz 1, 3, .inr (.inl fun _ => 0))), ((f16 4), .inl (cz 0, 56, .inl fun _ => 0)), ((f16 5), .inl (cz 0, 56, .inl fun _ => 0)), ((f16 6), .inl (cz 0, 56, .inl fun _ => 0)), ((f16 7), .inl (cz 0, 56, .inl fun _ => 0)), ((f16 8), .inl (cz 0, 56, .inl fun _ => 0)), ((f16 9), .inl (cz 0, 56, .inl fun _ => 0)), (q29, .inl (cz 0, 64, .inl fun _ => 0))] H := hP
  have hD : va_D A [(h0, .inr (0, [.ref (f5 0), .ref (f16 0), .null, .int 0])), ((f5 0), .inr (6, [.ref (f5 1), .ref (f5 4), .ref (f5 5), .ref (f5 6), .ref (f5 7), .ref (f5 8), .ref (f5 9), .int 0])), ((f5 1), .inr (5, [.ref (f5 2), .ref (f5 3), .int 0, .int 0, .int 0, .int 0])), ((f5 2), .inl (cz 0, 3, .inl fun _ => 0)), ((f5 3), .inl (cz 1, 3, .inr (.inl fun _ => 0))), ((f5 4), .inl (cz 0, 56, .inl fun _ => 0)), ((f5 5), .inl (cz 0, 56, .inl fun _ => 0)), ((f5 6), .inl (cz 0, 56, .inl fun _ => 0)), ((f5 7), .inl (cz 0, 56, .inl fun _ => 0)), ((f5 8), .inl (cz 0, 56, .inl fun _ => 0)), ((f5 9), .inl (cz 0, 56, .inl fun _ => 0)), ((f16 0), .inr (6, [.ref (f16 1), .ref (f16 4), .ref (f16 5), .ref (f16 6), .ref (f16 7), .ref (f16 8), .ref (f16 9), .int 0])), ((f16 1), .inr (5, [.ref (f16 2), .ref (f16 3), .int 0, .int 0, .int 0, .int 0])), ((f16 2), .inl (cz 0, 3, .inl fun _ => 0)), ((f16 3), .inl (cz 1, 3, .inr (.inl fun _ => 0))), ((f16 4), .inl (cz 0, 56, .inl fun _ => 0)), ((f16 5), .inl (cz 0, 56, .inl fun _ => 0)), ((f16 6), .inl (cz 0, 56, .inl fun _ => 0)), ((f16 7), .inl (cz 0, 56, .inl fun _ => 0)), ((f16 8), .inl (cz 0, 56, .inl fun _ => 0)), ((f16 9), .inl (cz 0, 56, .inl fun _ => 0)), (q29, .inl (cz 0, 64, .inl fun _ => 0))] := hD
  refine ct_pf (ci := 0) hx hb hts am_ly0 tyX0 tyX0_ok nmX0 hown hin hK hP hD hS rfl 2 (by decide) wx_215 rfl rfl rfl (Nat.le_of_ble_eq_true rfl) dX0_init_31 (fun H locs hP hD hS => ?_)
  have hP : va_P D vwCl [(h0, .inr (0, [.ref (f5 0), .ref (f16 0), .ref q29, .int 0])), ((f5 0), .inr (6, [.ref (f5 1), .ref (f5 4), .ref (f5 5), .ref (f5 6), .ref (f5 7), .ref (f5 8), .ref (f5 9), .int 0])), ((f5 1), .inr (5, [.ref (f5 2), .ref (f5 3), .int 0, .int 0, .int 0, .int 0])), ((f5 2), .inl (cz 0, 3, .inl fun _ => 0)), ((f5 3), .inl (cz 1, 3, .inr (.inl fun _ => 0))), ((f5 4), .inl (cz 0, 56, .inl fun _ => 0)), ((f5 5), .inl (cz 0, 56, .inl fun _ => 0)), ((f5 6), .inl (cz 0, 56, .inl fun _ => 0)), ((f5 7), .inl (cz 0, 56, .inl fun _ => 0)), ((f5 8), .inl (cz 0, 56, .inl fun _ => 0)), ((f5 9), .inl (cz 0, 56, .inl fun _ => 0)), ((f16 0), .inr (6, [.ref (f16 1), .ref (f16 4), .ref (f16 5), .ref (f16 6), .ref (f16 7), .ref (f16 8), .ref (f16 9), .int 0])), ((f16 1), .inr (5, [.ref (f16 2), .ref (f16 3), .int 0, .int 0, .int 0, .int 0])), ((f16 2), .inl (cz 0, 3, .inl fun _ => 0)), ((f16 3), .inl (cz 1, 3, .inr (.inl fun _ => 0))), ((f16 4), .inl (cz 0, 56, .inl fun _ => 0)), ((f16 5), .inl (cz 0, 56, .inl fun _ => 0)), ((f16 6), .inl (cz 0, 56, .inl fun _ => 0)), ((f16 7), .inl (cz 0, 56, .inl fun _ => 0)), ((f16 8), .inl (cz 0, 56, .inl fun _ => 0)), ((f16 9), .inl (cz 0, 56, .inl fun _ => 0)), (q29, .inl (cz 0, 64, .inl fun _ => 0))] H := hP
  have hD : va_D A [(h0, .inr (0, [.ref (f5 0), .ref (f16 0), .ref q29, .int 0])), ((f5 0), .inr (6, [.ref (f5 1), .ref (f5 4), .ref (f5 5), .ref (f5 6), .ref (f5 7), .ref (f5 8), .ref (f5 9), .int 0])), ((f5 1), .inr (5, [.ref (f5 2), .ref (f5 3), .int 0, .int 0, .int 0, .int 0])), ((f5 2), .inl (cz 0, 3, .inl fun _ => 0)), ((f5 3), .inl (cz 1, 3, .inr (.inl fun _ => 0))), ((f5 4), .inl (cz 0, 56, .inl fun _ => 0)), ((f5 5), .inl (cz 0, 56, .inl fun _ => 0)), ((f5 6), .inl (cz 0, 56, .inl fun _ => 0)), ((f5 7), .inl (cz 0, 56, .inl fun _ => 0)), ((f5 8), .inl (cz 0, 56, .inl fun _ => 0)), ((f5 9), .inl (cz 0, 56, .inl fun _ => 0)), ((f16 0), .inr (6, [.ref (f16 1), .ref (f16 4), .ref (f16 5), .ref (f16 6), .ref (f16 7), .ref (f16 8), .ref (f16 9), .int 0])), ((f16 1), .inr (5, [.ref (f16 2), .ref (f16 3), .int 0, .int 0, .int 0, .int 0])), ((f16 2), .inl (cz 0, 3, .inl fun _ => 0)), ((f16 3), .inl (cz 1, 3, .inr (.inl fun _ => 0))), ((f16 4), .inl (cz 0, 56, .inl fun _ => 0)), ((f16 5), .inl (cz 0, 56, .inl fun _ => 0)), ((f16 6), .inl (cz 0, 56, .inl fun _ => 0)), ((f16 7), .inl (cz 0, 56, .inl fun _ => 0)), ((f16 8), .inl (cz 0, 56, .inl fun _ => 0)), ((f16 9), .inl (cz 0, 56, .inl fun _ => 0)), (q29, .inl (cz 0, 64, .inl fun _ => 0))] := hD
  refine lv_aload_n hx hb dX0_init_34 rfl (lv_at hl 0 rfl) ?_
  refine lv_iconst (v := 0) hx hb dX0_init_35 (by decide) ?_
  refine ct_pf (ci := 0) hx hb hts am_ly0 tyX0 tyX0_ok nmX0 hown hin hK hP hD hS rfl 3 (by decide) wx_216 rfl rfl rfl (Nat.le_of_ble_eq_true rfl) dX0_init_36 (fun H locs hP hD hS => ?_)
  have hP : va_P D vwCl [(h0, .inr (0, [.ref (f5 0), .ref (f16 0), .ref q29, .int 0])), ((f5 0), .inr (6, [.ref (f5 1), .ref (f5 4), .ref (f5 5), .ref (f5 6), .ref (f5 7), .ref (f5 8), .ref (f5 9), .int 0])), ((f5 1), .inr (5, [.ref (f5 2), .ref (f5 3), .int 0, .int 0, .int 0, .int 0])), ((f5 2), .inl (cz 0, 3, .inl fun _ => 0)), ((f5 3), .inl (cz 1, 3, .inr (.inl fun _ => 0))), ((f5 4), .inl (cz 0, 56, .inl fun _ => 0)), ((f5 5), .inl (cz 0, 56, .inl fun _ => 0)), ((f5 6), .inl (cz 0, 56, .inl fun _ => 0)), ((f5 7), .inl (cz 0, 56, .inl fun _ => 0)), ((f5 8), .inl (cz 0, 56, .inl fun _ => 0)), ((f5 9), .inl (cz 0, 56, .inl fun _ => 0)), ((f16 0), .inr (6, [.ref (f16 1), .ref (f16 4), .ref (f16 5), .ref (f16 6), .ref (f16 7), .ref (f16 8), .ref (f16 9), .int 0])), ((f16 1), .inr (5, [.ref (f16 2), .ref (f16 3), .int 0, .int 0, .int 0, .int 0])), ((f16 2), .inl (cz 0, 3, .inl fun _ => 0)), ((f16 3), .inl (cz 1, 3, .inr (.inl fun _ => 0))), ((f16 4), .inl (cz 0, 56, .inl fun _ => 0)), ((f16 5), .inl (cz 0, 56, .inl fun _ => 0)), ((f16 6), .inl (cz 0, 56, .inl fun _ => 0)), ((f16 7), .inl (cz 0, 56, .inl fun _ => 0)), ((f16 8), .inl (cz 0, 56, .inl fun _ => 0)), ((f16 9), .inl (cz 0, 56, .inl fun _ => 0)), (q29, .inl (cz 0, 64, .inl fun _ => 0))] H := hP
  have hD : va_D A [(h0, .inr (0, [.ref (f5 0), .ref (f16 0), .ref q29, .int 0])), ((f5 0), .inr (6, [.ref (f5 1), .ref (f5 4), .ref (f5 5), .ref (f5 6), .ref (f5 7), .ref (f5 8), .ref (f5 9), .int 0])), ((f5 1), .inr (5, [.ref (f5 2), .ref (f5 3), .int 0, .int 0, .int 0, .int 0])), ((f5 2), .inl (cz 0, 3, .inl fun _ => 0)), ((f5 3), .inl (cz 1, 3, .inr (.inl fun _ => 0))), ((f5 4), .inl (cz 0, 56, .inl fun _ => 0)), ((f5 5), .inl (cz 0, 56, .inl fun _ => 0)), ((f5 6), .inl (cz 0, 56, .inl fun _ => 0)), ((f5 7), .inl (cz 0, 56, .inl fun _ => 0)), ((f5 8), .inl (cz 0, 56, .inl fun _ => 0)), ((f5 9), .inl (cz 0, 56, .inl fun _ => 0)), ((f16 0), .inr (6, [.ref (f16 1), .ref (f16 4), .ref (f16 5), .ref (f16 6), .ref (f16 7), .ref (f16 8), .ref (f16 9), .int 0])), ((f16 1), .inr (5, [.ref (f16 2), .ref (f16 3), .int 0, .int 0, .int 0, .int 0])), ((f16 2), .inl (cz 0, 3, .inl fun _ => 0)), ((f16 3), .inl (cz 1, 3, .inr (.inl fun _ => 0))), ((f16 4), .inl (cz 0, 56, .inl fun _ => 0)), ((f16 5), .inl (cz 0, 56, .inl fun _ => 0)), ((f16 6), .inl (cz 0, 56, .inl fun _ => 0)), ((f16 7), .inl (cz 0, 56, .inl fun _ => 0)), ((f16 8), .inl (cz 0, 56, .inl fun _ => 0)), ((f16 9), .inl (cz 0, 56, .inl fun _ => 0)), (q29, .inl (cz 0, 64, .inl fun _ => 0))] := hD
  refine W.widen (k := 21) (n := 776) (Nat.le_of_ble_eq_true rfl) (Nat.le_of_ble_eq_true rfl) ?_
  exact W.vret hx hb hr (fun t ht hW => ⟨⟨(fun k => ([h0, (f5 0), (f5 1), (f5 2), (f5 3), (f5 4), (f5 5), (f5 6), (f5 7), (f5 8), (f5 9), (f16 0), (f16 1), (f16 2), (f16 3), (f16 4), (f16 5), (f16 6), (f16 7), (f16 8), (f16 9), q29] : List Nat).getD k 0), rfl, trivial, rfl, by rw [ht]; exact hP, hD⟩, hS.F ht⟩) hS.2.2 dX0_init_39
