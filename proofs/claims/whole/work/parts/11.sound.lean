/-! the small machine's world, and one instruction of it over the machine -/
def am_cv (ad : Nat → Nat) (v : Value) : Value := match v with
  | .ref k => .ref (ad k)
  | v => v
def am_ce (ad : Nat → Nat) (cA : Nat → ClassId) (h : am_H) (k : Nat) : va_E :=
  if (am_kd k).1 < 20 then .inr ((am_kd k).1, (List.range (am_kd k).2).map fun j => am_cv ad (am_fr (am_kd k).1 j k h))
  else if (am_kd k).1 = 21 then .inl (cA k, (am_kd k).2, .inr (.inl (h.2 k)))
  else if (am_kd k).1 = 20 ∨ (am_kd k).1 = 22 then .inl (cA k, (am_kd k).2, .inl (h.1 k))
  else .inl (cA k, (am_kd k).2, .inr (.inr (.inr (.inr fun j => some (ad (am_gr k j))))))
def am_ws (ad : Nat → Nat) (cA : Nat → ClassId) (h : am_H) : va_W := (List.range 99).map fun k => (ad k, am_ce ad cA h k)
def am_ty (k : Nat) : FieldType := match (am_kd k).1 with
  | 21 => .long
  | 22 => .boolean
  | 23 => .object "StarPlates$Dots"
  | 24 => .object "StarPlates$Tray"
  | 25 => .object "StarPlates$Pairing"
  | _ => .int
def am_tys (cA : Nat → ClassId) : List (ClassId × FieldType) := (List.range 99).map fun k => (cA k, am_ty k)
theorem am_ws_at {ad : Nat → Nat} {cA : Nat → ClassId} {h : am_H} {k : Nat} (hk : k < 99) : (am_ws ad cA h)[k]? = some (ad k, am_ce ad cA h k) := by
  simp [am_ws, hk]
theorem am_tys_at {cA : Nat → ClassId} {k : Nat} (hk : k < 99) : (am_tys cA)[k]? = some (cA k, am_ty k) := by
  simp [am_tys, hk]
theorem am_kd_out {k : Nat} (hk : 99 ≤ k) : (am_kd k).1 = 30 ∨ (am_kd k).1 = 99 := by
  by_cases h : k < 101
  · rcases (show k = 99 ∨ k = 100 by omega) with rfl | rfl
    · exact Or.inl rfl
    · exact Or.inl rfl
  · refine Or.inr ?_
    have : am_kds.length ≤ k := by show 101 ≤ k; omega
    simp [am_kd, List.getD_eq_getElem?_getD, List.getElem?_eq_none this]
theorem am_lt {k t : Nat} (h : (am_kd k).1 = t) (h1 : t ≠ 30) (h2 : t ≠ 99) : k < 99 := by
  rcases Nat.lt_or_ge k 99 with q | q
  · exact q
  · rcases am_kd_out q with z | z <;> omega
theorem am_ce_cong {ad : Nat → Nat} {cA : Nat → ClassId} {h h2 : am_H} {k : Nat} (e1 : h.1 k = h2.1 k) (e2 : h.2 k = h2.2 k) : am_ce ad cA h k = am_ce ad cA h2 k := by
  have e : ∀ c j, am_fr c j k h = am_fr c j k h2 := fun c j => by simp only [am_fr, e1, e2]
  simp only [am_ce, e1, e2, e]
theorem am_ws_set {ad : Nat → Nat} {cA : Nat → ClassId} {h h2 : am_H} {k : Nat} (hk : k < 99) {x : va_E} (hx : am_ce ad cA h2 k = x) (ho : ∀ i, i ≠ k → h.1 i = h2.1 i ∧ h.2 i = h2.2 i) : (am_ws ad cA h).set k (ad k, x) = am_ws ad cA h2 := by
  apply List.ext_getElem?
  intro i
  rw [List.getElem?_set]
  by_cases hi : k = i
  · subst hi
    simp [am_ws, hk, hx]
  · rw [if_neg hi]
    by_cases h9 : i < 99
    · rw [am_ws_at h9, am_ws_at h9, am_ce_cong (ho i (fun z => hi z.symm)).1 (ho i (fun z => hi z.symm)).2]
    · simp [am_ws, h9]
theorem am_ui_o {h : am_H} {k j : Nat} {x : Int32} : ∀ i, i ≠ k → h.1 i = (am_ui h k j x).1 i ∧ h.2 i = (am_ui h k j x).2 i := fun i hi => ⟨by funext b; simp [am_ui, hi], rfl⟩
theorem am_ul_o {h : am_H} {k j : Nat} {x : Int64} : ∀ i, i ≠ k → h.1 i = (am_ul h k j x).1 i ∧ h.2 i = (am_ul h k j x).2 i := fun i hi => ⟨rfl, by funext b; simp [am_ul, hi]⟩
theorem am_uf_o {h : am_H} {k : Nat} {f : Nat → Int32} : ∀ i, i ≠ k → h.1 i = (am_uf h k f).1 i ∧ h.2 i = (am_uf h k f).2 i := fun i hi => ⟨by funext b; simp [am_uf, hi], rfl⟩
theorem am_ce_i {ad : Nat → Nat} {cA : Nat → ClassId} {h : am_H} {k : Nat} (t : (am_kd k).1 = 20 ∨ (am_kd k).1 = 22) : am_ce ad cA h k = .inl (cA k, (am_kd k).2, .inl (h.1 k)) := by
  unfold am_ce
  rw [if_neg (by omega), if_neg (by omega), if_pos t]
theorem am_ce_l {ad : Nat → Nat} {cA : Nat → ClassId} {h : am_H} {k : Nat} (t : (am_kd k).1 = 21) : am_ce ad cA h k = .inl (cA k, (am_kd k).2, .inr (.inl (h.2 k))) := by
  unfold am_ce
  rw [if_neg (by omega), if_pos (by omega)]
theorem am_ce_q {ad : Nat → Nat} {cA : Nat → ClassId} {h : am_H} {k : Nat} (t : (am_kd k).1 = 23 ∨ (am_kd k).1 = 24 ∨ (am_kd k).1 = 25) : am_ce ad cA h k = .inl (cA k, (am_kd k).2, .inr (.inr (.inr (.inr fun j => some (ad (am_gr k j)))))) := by
  unfold am_ce
  rw [if_neg (by omega), if_neg (by omega), if_neg (by omega)]
theorem am_ce_o {ad : Nat → Nat} {cA : Nat → ClassId} {h : am_H} {k t : Nat} (e : (am_kd k).1 = t) (ht : t < 20) : am_ce ad cA h k = .inr (t, (List.range (am_kd k).2).map fun j => am_cv ad (am_fr t j k h)) := by
  unfold am_ce
  rw [if_pos (by omega), e]
theorem am_nslots : ∀ k, k < 99 → (am_kd k).1 < 20 → (vwCl[(am_kd k).1]?).map (fun q => q.2.2) = some (am_kd k).2 := by decide +kernel
/-- the locals, as far as they are known -/
def am_lr (ad : Nat → Nat) (ls : Array Slot) (nL : Nat) (L : am_L) : Prop := L.length = nL ∧ ls.size = nL ∧ lv_wf ls ∧ ∀ i v, am_ld L i = some v → ls[i]? = some (.val (am_cv ad v))
def am_as (ad : Nat → Nat) (L : am_L) : List (Nat × Value) := (List.range L.length).filterMap fun i => (am_ld L i).map fun v => (i, am_cv ad v)
theorem am_ld_lt {L : am_L} {i : Nat} {v : Value} (h : am_ld L i = some v) : i < L.length := by
  rcases Nat.lt_or_ge i L.length with q | q
  · exact q
  · rw [am_ld, List.getElem?_eq_none q] at h
    cases h
theorem am_as_mem {ad : Nat → Nat} {L : am_L} {i : Nat} {v : Value} (h : am_ld L i = some v) : (i, am_cv ad v) ∈ am_as ad L := by
  refine List.mem_filterMap.mpr ⟨i, List.mem_range.mpr (am_ld_lt h), ?_⟩
  rw [h]
  rfl
theorem am_lr_has {ad : Nat → Nat} {ls : Array Slot} {nL : Nat} {L : am_L} (h : am_lr ad ls nL L) : lv_has ls nL (am_as ad L) := by
  refine ⟨h.2.1, h.2.2.1, fun q hq => ?_⟩
  obtain ⟨i, -, hi⟩ := List.mem_filterMap.mp hq
  cases hv : am_ld L i with
  | none => rw [hv] at hi; cases hi
  | some v =>
    rw [hv] at hi
    cases hi
    exact h.2.2.2 i v hv
theorem am_cv_cat (ad : Nat → Nat) (v : Value) : (am_cv ad v).category = v.category := by cases v <;> rfl
theorem am_set_ld {L : am_L} {i j : Nat} {x : Option Value} {w : Value} (h : am_ld (L.set i x) j = some w) : (i = j ∧ x = some w) ∨ (i ≠ j ∧ am_ld L j = some w) := by
  unfold am_ld at h ⊢
  rw [List.getElem?_set] at h
  by_cases e : i = j
  · rw [if_pos e] at h
    split at h
    · exact Or.inl ⟨e, h⟩
    · cases h
  · rw [if_neg e] at h
    exact Or.inr ⟨e, h⟩
theorem am_kill_len (L : am_L) (i : Nat) : (am_kill L i).length = L.length := by
  cases i with
  | zero => rfl
  | succ j =>
    simp only [am_kill]
    split <;> first | rfl | simp
theorem am_kill_ld {L : am_L} {i j : Nat} {w : Value} (h : am_ld (am_kill L i) j = some w) : am_ld L j = some w ∧ ¬ (j + 1 = i ∧ w.category = 2) := by
  cases i with
  | zero => exact ⟨h, fun q => by omega⟩
  | succ k =>
    simp only [am_kill] at h
    split at h
    · rcases am_set_ld h with ⟨-, q⟩ | ⟨q1, q2⟩
      · cases q
      · exact ⟨q2, fun z => q1 (by omega)⟩
    · rcases am_set_ld h with ⟨-, q⟩ | ⟨q1, q2⟩
      · cases q
      · exact ⟨q2, fun z => q1 (by omega)⟩
    · rename_i n1 n2
      refine ⟨h, fun z => ?_⟩
      obtain ⟨z1, z2⟩ := z
      have e : j = k := by omega
      subst e
      cases w with
      | long x => exact n1 x h
      | double x => exact n2 x h
      | _ => simp [Value.category] at z2
theorem am_lr_st1 {ad : Nat → Nat} {ls' : Array Slot} {nL : Nat} {L : am_L} {i : Nat} {v : Value} (hL : L.length = nL) (h : lv_has ls' nL ((i, am_cv ad v) :: (am_as ad L).filter (fun q => !(q.1 == i) && !(q.1 + 1 == i && q.2.category == 2)))) : am_lr ad ls' nL (am_st1 L i v) := by
  refine ⟨by simp [am_st1, am_kill_len, hL], h.1, h.2.1, fun j w hw => ?_⟩
  rcases am_set_ld hw with ⟨rfl, e⟩ | ⟨ne, e⟩
  · cases e
    exact h.2.2 (i, am_cv ad v) List.mem_cons_self
  · obtain ⟨a, b⟩ := am_kill_ld e
    refine h.2.2 (j, am_cv ad w) (List.mem_cons_of_mem _ (List.mem_filter.mpr ⟨am_as_mem a, ?_⟩))
    simp only [am_cv_cat, Bool.and_eq_true, Bool.not_eq_true', beq_eq_false_iff_ne, ne_eq, Bool.and_eq_false_iff]
    refine ⟨fun z => ne z.symm, ?_⟩
    by_cases z : j + 1 = i
    · exact Or.inr fun y => b ⟨z, y⟩
    · exact Or.inl z
theorem am_lr_st2 {ad : Nat → Nat} {ls' : Array Slot} {nL : Nat} {L : am_L} {i : Nat} {v : Value} (hL : L.length = nL) (h : lv_has ls' nL ((i, am_cv ad v) :: (am_as ad L).filter (fun q => !(q.1 == i) && (!(q.1 == i + 1) && !(q.1 + 1 == i && q.2.category == 2))))) : am_lr ad ls' nL (am_st2 L i v) := by
  refine ⟨by simp [am_st2, am_kill_len, hL], h.1, h.2.1, fun j w hw => ?_⟩
  rcases am_set_ld hw with ⟨-, e⟩ | ⟨ne2, hw⟩
  · cases e
  rcases am_set_ld hw with ⟨rfl, e⟩ | ⟨ne, e⟩
  · cases e
    exact h.2.2 (i, am_cv ad v) List.mem_cons_self
  · obtain ⟨a, b⟩ := am_kill_ld e
    refine h.2.2 (j, am_cv ad w) (List.mem_cons_of_mem _ (List.mem_filter.mpr ⟨am_as_mem a, ?_⟩))
    simp only [am_cv_cat, Bool.and_eq_true, Bool.not_eq_true', beq_eq_false_iff_ne, ne_eq, Bool.and_eq_false_iff]
    refine ⟨fun z => ne z.symm, fun z => ne2 z.symm, ?_⟩
    by_cases z : j + 1 = i
    · exact Or.inr fun y => b ⟨z, y⟩
    · exact Or.inl z
/-! what a result of the small machine's pieces says -/
theorem am_nx_inv {pc : Nat} {L : am_L} {st : List Value} {h : am_H} {q : am_C} (e : am_nx pc L st h = some (.inr q)) : q = (pc, L, st, h) := by
  unfold am_nx at e
  exact (Sum.inr.inj (Option.some.inj e)).symm
theorem am_1i_inv {st : List Value} {k : Int32 → List Value → am_S} {z} (e : am_1i st k = some z) : ∃ x r, st = .int x :: r ∧ k x r = some z := by
  unfold am_1i at e
  split at e
  · exact ⟨_, _, rfl, e⟩
  · cases e
theorem am_2i_inv {st : List Value} {k : Int32 → Int32 → List Value → am_S} {z} (e : am_2i st k = some z) : ∃ x y r, st = .int y :: .int x :: r ∧ k x y r = some z := by
  unfold am_2i at e
  split at e
  · exact ⟨_, _, _, rfl, e⟩
  · cases e
theorem am_1l_inv {st : List Value} {k : Int64 → List Value → am_S} {z} (e : am_1l st k = some z) : ∃ x r, st = .long x :: r ∧ k x r = some z := by
  unfold am_1l at e
  split at e
  · exact ⟨_, _, rfl, e⟩
  · cases e
theorem am_2l_inv {st : List Value} {k : Int64 → Int64 → List Value → am_S} {z} (e : am_2l st k = some z) : ∃ x y r, st = .long y :: .long x :: r ∧ k x y r = some z := by
  unfold am_2l at e
  split at e
  · exact ⟨_, _, _, rfl, e⟩
  · cases e
theorem am_li_inv {st : List Value} {k : Int64 → Int32 → List Value → am_S} {z} (e : am_li st k = some z) : ∃ x y r, st = .int y :: .long x :: r ∧ k x y r = some z := by
  unfold am_li at e
  split at e
  · exact ⟨_, _, _, rfl, e⟩
  · cases e
theorem am_1r_inv {st : List Value} {k : Nat → List Value → am_S} {z} (e : am_1r st k = some z) : ∃ x r, st = .ref x :: r ∧ k x r = some z := by
  unfold am_1r at e
  split at e
  · exact ⟨_, _, rfl, e⟩
  · cases e
theorem am_ri_inv {st : List Value} {k : Nat → Int32 → List Value → am_S} {z} (e : am_ri st k = some z) : ∃ a i r, st = .int i :: .ref a :: r ∧ k a i r = some z := by
  unfold am_ri at e
  split at e
  · exact ⟨_, _, _, rfl, e⟩
  · cases e
theorem am_rii_inv {st : List Value} {k : Nat → Int32 → Int32 → List Value → am_S} {z} (e : am_rii st k = some z) : ∃ a i x r, st = .int x :: .int i :: .ref a :: r ∧ k a i x r = some z := by
  unfold am_rii at e
  split at e
  · exact ⟨_, _, _, _, rfl, e⟩
  · cases e
theorem am_ril_inv {st : List Value} {k : Nat → Int32 → Int64 → List Value → am_S} {z} (e : am_ril st k = some z) : ∃ a i x r, st = .long x :: .int i :: .ref a :: r ∧ k a i x r = some z := by
  unfold am_ril at e
  split at e
  · exact ⟨_, _, _, _, rfl, e⟩
  · cases e
theorem am_vi_inv {o : Option Value} {k : Int32 → am_S} {z} (e : am_vi o k = some z) : ∃ x, o = some (.int x) ∧ k x = some z := by
  unfold am_vi at e
  split at e
  · exact ⟨_, rfl, e⟩
  · cases e
theorem am_vl_inv {o : Option Value} {k : Int64 → am_S} {z} (e : am_vl o k = some z) : ∃ x, o = some (.long x) ∧ k x = some z := by
  unfold am_vl at e
  split at e
  · exact ⟨_, rfl, e⟩
  · cases e
theorem am_vr_inv {o : Option Value} {k : Nat → am_S} {z} (e : am_vr o k = some z) : ∃ x, o = some (.ref x) ∧ k x = some z := by
  unfold am_vr at e
  split at e
  · exact ⟨_, rfl, e⟩
  · cases e
theorem am_ob_inv {α β : Type} {o : Option α} {k : α → Option β} {z : β} (e : am_ob o k = some z) : ∃ a, o = some a ∧ k a = some z := by
  unfold am_ob at e
  split at e
  · exact ⟨_, rfl, e⟩
  · cases e
theorem am_ix_inv {α : Type} {i : Int32} {n : Nat} {a : Option α} {z : α} (e : am_ix i n a = some z) : vp_in i n ∧ a = some z := by
  unfold am_ix at e
  split at e
  · cases e
  · rename_i h
    exact ⟨h, e⟩
theorem am_if_inv {α : Type} {c : Prop} [Decidable c] {a : Option α} {z : α} (e : (if c then a else none) = some z) : c ∧ a = some z := by
  split at e
  · rename_i h
    exact ⟨h, e⟩
  · cases e
theorem am_fi_inv {α : Type} {c : Prop} [Decidable c] {a : Option α} {z : α} (e : (if c then none else a) = some z) : ¬ c ∧ a = some z := by
  split at e
  · cases e
  · rename_i h
    exact ⟨h, e⟩
theorem am_jp_inv {pc : Nat} {off : Int} {L : am_L} {st : List Value} {h : am_H} {q : am_C} (e : am_jp pc off L st h = some (.inr q)) : ∃ tgt : Nat, (pc : Int) + off = (tgt : Int) ∧ q = (tgt, L, st, h) := by
  unfold am_jp at e
  obtain ⟨h0, e⟩ := am_if_inv e
  exact ⟨_, (Int.toNat_of_nonneg h0).symm, am_nx_inv e⟩
