/-! the methods of the class and of the reference in the small machine, and their contracts -/
def am_al {α : Type} : List (Nat × α) → Nat → Option α
  | [], _ => none
  | e :: l, q => if e.1 = q then some e.2 else am_al l q
theorem am_al_in {α : Type} : ∀ {l : List (Nat × α)} {q : Nat} {a : α}, am_al l q = some a → (q, a) ∈ l
  | [], _, _, h => by cases h
  | e :: l, q, a, h => by
    unfold am_al at h
    split at h
    · rename_i hq
      cases h
      rw [← hq]
      exact List.mem_cons_self
    · exact List.mem_cons_of_mem _ (am_al_in h)
def FX8 : List (Nat × (Nat × Nat)) := [(14, (8, 0)), (18, (8, 1)), (22, (8, 2)), (25, (8, 3)), (32, (8, 4)), (37, (8, 5)), (44, (8, 6)), (51, (8, 7)), (58, (8, 8)), (65, (8, 9)), (72, (8, 10)), (95, (1, 2)), (142, (5, 2)), (146, (5, 3)), (150, (5, 4)), (153, (5, 5)), (156, (5, 0)), (163, (0, 3)), (176, (4, 0)), (184, (2, 9)), (188, (2, 10)), (191, (2, 11)), (198, (1, 0)), (201, (1, 1)), (215, (1, 3)), (231, (3, 3)), (232, (3, 0)), (235, (3, 1)), (238, (3, 2)), (259, (7, 0)), (262, (4, 2)), (307, (7, 1))]
def KX8 : List (Nat × Value) := [(36, .int (40000)), (129, .long (8388608)), (131, .int (-2147483648)), (179, .long (-9223372036854775808)), (269, .int (8388607)), (270, .int (8388608)), (271, .int (2147483647))]
def SX8 : List (Nat × Nat) := [(132, 99), (135, 100)]
theorem okF_X8 : ∀ e ∈ FX8, e.2.1 < 10 ∧ ∃ q, vwCl[e.2.1]? = some q ∧ e.2.2 < q.2.2 ∧ Cond.fieldLink RX8 e.1 (q.2.1 e.2.2).1 (q.2.1 e.2.2).2.1 (q.2.1 e.2.2).2.2.1 ∈ am_big := List.forall_mem_cons.mpr ⟨⟨by decide, (RX8, TX8, 11), rfl, by decide, wd_328⟩, List.forall_mem_cons.mpr ⟨⟨by decide, (RX8, TX8, 11), rfl, by decide, wd_329⟩, List.forall_mem_cons.mpr ⟨⟨by decide, (RX8, TX8, 11), rfl, by decide, wd_330⟩, List.forall_mem_cons.mpr ⟨⟨by decide, (RX8, TX8, 11), rfl, by decide, wd_331⟩, List.forall_mem_cons.mpr ⟨⟨by decide, (RX8, TX8, 11), rfl, by decide, wd_332⟩, List.forall_mem_cons.mpr ⟨⟨by decide, (RX8, TX8, 11), rfl, by decide, wd_333⟩, List.forall_mem_cons.mpr ⟨⟨by decide, (RX8, TX8, 11), rfl, by decide, wd_334⟩, List.forall_mem_cons.mpr ⟨⟨by decide, (RX8, TX8, 11), rfl, by decide, wd_335⟩, List.forall_mem_cons.mpr ⟨⟨by decide, (RX8, TX8, 11), rfl, by decide, wd_336⟩, List.forall_mem_cons.mpr ⟨⟨by decide, (RX8, TX8, 11), rfl, by decide, wd_337⟩, List.forall_mem_cons.mpr ⟨⟨by decide, (RX8, TX8, 11), rfl, by decide, wd_338⟩, List.forall_mem_cons.mpr ⟨⟨by decide, (RX1, TX1, 4), rfl, by decide, wd_91⟩, List.forall_mem_cons.mpr ⟨⟨by decide, (RX5, TX5, 6), rfl, by decide, wd_143⟩, List.forall_mem_cons.mpr ⟨⟨by decide, (RX5, TX5, 6), rfl, by decide, wd_146⟩, List.forall_mem_cons.mpr ⟨⟨by decide, (RX5, TX5, 6), rfl, by decide, wd_149⟩, List.forall_mem_cons.mpr ⟨⟨by decide, (RX5, TX5, 6), rfl, by decide, wd_152⟩, List.forall_mem_cons.mpr ⟨⟨by decide, (RX5, TX5, 6), rfl, by decide, wd_139⟩, List.forall_mem_cons.mpr ⟨⟨by decide, (RX0, TX0, 4), rfl, by decide, wd_217⟩, List.forall_mem_cons.mpr ⟨⟨by decide, (RX4, TX4, 3), rfl, by decide, wd_235⟩, List.forall_mem_cons.mpr ⟨⟨by decide, (RX2, TX2, 12), rfl, by decide, wd_263⟩, List.forall_mem_cons.mpr ⟨⟨by decide, (RX2, TX2, 12), rfl, by decide, wd_265⟩, List.forall_mem_cons.mpr ⟨⟨by decide, (RX2, TX2, 12), rfl, by decide, wd_267⟩, List.forall_mem_cons.mpr ⟨⟨by decide, (RX1, TX1, 4), rfl, by decide, wd_85⟩, List.forall_mem_cons.mpr ⟨⟨by decide, (RX1, TX1, 4), rfl, by decide, wd_89⟩, List.forall_mem_cons.mpr ⟨⟨by decide, (RX1, TX1, 4), rfl, by decide, wd_95⟩, List.forall_mem_cons.mpr ⟨⟨by decide, (RX3, TX3, 8), rfl, by decide, wd_306⟩, List.forall_mem_cons.mpr ⟨⟨by decide, (RX3, TX3, 8), rfl, by decide, wd_300⟩, List.forall_mem_cons.mpr ⟨⟨by decide, (RX3, TX3, 8), rfl, by decide, wd_302⟩, List.forall_mem_cons.mpr ⟨⟨by decide, (RX3, TX3, 8), rfl, by decide, wd_304⟩, List.forall_mem_cons.mpr ⟨⟨by decide, (RX7, TX7, 4), rfl, by decide, wd_115⟩, List.forall_mem_cons.mpr ⟨⟨by decide, (RX4, TX4, 3), rfl, by decide, wd_239⟩, List.forall_mem_cons.mpr ⟨⟨by decide, (RX7, TX7, 4), rfl, by decide, wd_117⟩, fun _ h => absurd h List.not_mem_nil⟩⟩⟩⟩⟩⟩⟩⟩⟩⟩⟩⟩⟩⟩⟩⟩⟩⟩⟩⟩⟩⟩⟩⟩⟩⟩⟩⟩⟩⟩⟩⟩
theorem okK_X8 : ∀ e ∈ KX8, (∀ x, e.2 = .int x → Cond.constant RX8 e.1 x ∈ am_big) ∧ (∀ x, e.2 = .long x → Cond.constantLong RX8 e.1 x ∈ am_big) := List.forall_mem_cons.mpr ⟨⟨fun x hx => (by cases hx; exact wd_130), fun x hx => (by cases hx)⟩, List.forall_mem_cons.mpr ⟨⟨fun x hx => (by cases hx), fun x hx => (by cases hx; exact wd_446)⟩, List.forall_mem_cons.mpr ⟨⟨fun x hx => (by cases hx; exact wd_425), fun x hx => (by cases hx)⟩, List.forall_mem_cons.mpr ⟨⟨fun x hx => (by cases hx), fun x hx => (by cases hx; exact wd_588)⟩, List.forall_mem_cons.mpr ⟨⟨fun x hx => (by cases hx; exact wd_423), fun x hx => (by cases hx)⟩, List.forall_mem_cons.mpr ⟨⟨fun x hx => (by cases hx; exact wd_424), fun x hx => (by cases hx)⟩, List.forall_mem_cons.mpr ⟨⟨fun x hx => (by cases hx; exact wd_426), fun x hx => (by cases hx)⟩, fun _ h => absurd h List.not_mem_nil⟩⟩⟩⟩⟩⟩⟩
theorem okS_X8 : ∀ e ∈ SX8, (e.2 = 99 ∧ Cond.fieldLink RX8 e.1 "StarPlates" "LEAST_SETTING" "[I" ∈ am_big) ∨ (e.2 = 100 ∧ Cond.fieldLink RX8 e.1 "StarPlates" "GREATEST_SETTING" "[I" ∈ am_big) := List.forall_mem_cons.mpr ⟨Or.inl ⟨rfl, wd_455⟩, List.forall_mem_cons.mpr ⟨Or.inr ⟨rfl, wd_457⟩, fun _ h => absurd h List.not_mem_nil⟩⟩
def FX0 : List (Nat × (Nat × Nat)) := [(12, (0, 0)), (18, (0, 1)), (21, (0, 2)), (25, (0, 3)), (39, (6, 7)), (50, (6, 6)), (53, (6, 4)), (62, (6, 5)), (65, (6, 1)), (68, (6, 2)), (71, (6, 3))]
def KX0 : List (Nat × Value) := []
def SX0 : List (Nat × Nat) := []
theorem okF_X0 : ∀ e ∈ FX0, e.2.1 < 10 ∧ ∃ q, vwCl[e.2.1]? = some q ∧ e.2.2 < q.2.2 ∧ Cond.fieldLink RX0 e.1 (q.2.1 e.2.2).1 (q.2.1 e.2.2).2.1 (q.2.1 e.2.2).2.2.1 ∈ am_big := List.forall_mem_cons.mpr ⟨⟨by decide, (RX0, TX0, 4), rfl, by decide, wd_213⟩, List.forall_mem_cons.mpr ⟨⟨by decide, (RX0, TX0, 4), rfl, by decide, wd_214⟩, List.forall_mem_cons.mpr ⟨⟨by decide, (RX0, TX0, 4), rfl, by decide, wd_215⟩, List.forall_mem_cons.mpr ⟨⟨by decide, (RX0, TX0, 4), rfl, by decide, wd_216⟩, List.forall_mem_cons.mpr ⟨⟨by decide, (RX6, TX6, 8), rfl, by decide, wd_195⟩, List.forall_mem_cons.mpr ⟨⟨by decide, (RX6, TX6, 8), rfl, by decide, wd_193⟩, List.forall_mem_cons.mpr ⟨⟨by decide, (RX6, TX6, 8), rfl, by decide, wd_189⟩, List.forall_mem_cons.mpr ⟨⟨by decide, (RX6, TX6, 8), rfl, by decide, wd_191⟩, List.forall_mem_cons.mpr ⟨⟨by decide, (RX6, TX6, 8), rfl, by decide, wd_183⟩, List.forall_mem_cons.mpr ⟨⟨by decide, (RX6, TX6, 8), rfl, by decide, wd_185⟩, List.forall_mem_cons.mpr ⟨⟨by decide, (RX6, TX6, 8), rfl, by decide, wd_187⟩, fun _ h => absurd h List.not_mem_nil⟩⟩⟩⟩⟩⟩⟩⟩⟩⟩⟩
theorem okK_X0 : ∀ e ∈ KX0, (∀ x, e.2 = .int x → Cond.constant RX0 e.1 x ∈ am_big) ∧ (∀ x, e.2 = .long x → Cond.constantLong RX0 e.1 x ∈ am_big) := fun _ h => absurd h List.not_mem_nil
theorem okS_X0 : ∀ e ∈ SX0, (e.2 = 99 ∧ Cond.fieldLink RX0 e.1 "StarPlates" "LEAST_SETTING" "[I" ∈ am_big) ∨ (e.2 = 100 ∧ Cond.fieldLink RX0 e.1 "StarPlates" "GREATEST_SETTING" "[I" ∈ am_big) := fun _ h => absurd h List.not_mem_nil
def FX1 : List (Nat × (Nat × Nat)) := [(9, (1, 0)), (15, (1, 1)), (18, (1, 2)), (21, (1, 3))]
def KX1 : List (Nat × Value) := []
def SX1 : List (Nat × Nat) := []
theorem okF_X1 : ∀ e ∈ FX1, e.2.1 < 10 ∧ ∃ q, vwCl[e.2.1]? = some q ∧ e.2.2 < q.2.2 ∧ Cond.fieldLink RX1 e.1 (q.2.1 e.2.2).1 (q.2.1 e.2.2).2.1 (q.2.1 e.2.2).2.2.1 ∈ am_big := List.forall_mem_cons.mpr ⟨⟨by decide, (RX1, TX1, 4), rfl, by decide, wd_82⟩, List.forall_mem_cons.mpr ⟨⟨by decide, (RX1, TX1, 4), rfl, by decide, wd_86⟩, List.forall_mem_cons.mpr ⟨⟨by decide, (RX1, TX1, 4), rfl, by decide, wd_90⟩, List.forall_mem_cons.mpr ⟨⟨by decide, (RX1, TX1, 4), rfl, by decide, wd_92⟩, fun _ h => absurd h List.not_mem_nil⟩⟩⟩⟩
theorem okK_X1 : ∀ e ∈ KX1, (∀ x, e.2 = .int x → Cond.constant RX1 e.1 x ∈ am_big) ∧ (∀ x, e.2 = .long x → Cond.constantLong RX1 e.1 x ∈ am_big) := fun _ h => absurd h List.not_mem_nil
theorem okS_X1 : ∀ e ∈ SX1, (e.2 = 99 ∧ Cond.fieldLink RX1 e.1 "StarPlates" "LEAST_SETTING" "[I" ∈ am_big) ∨ (e.2 = 100 ∧ Cond.fieldLink RX1 e.1 "StarPlates" "GREATEST_SETTING" "[I" ∈ am_big) := fun _ h => absurd h List.not_mem_nil
def FX2 : List (Nat × (Nat × Nat)) := [(9, (2, 0)), (15, (2, 1)), (18, (2, 2)), (21, (2, 3)), (24, (2, 4)), (28, (2, 5)), (32, (2, 6)), (35, (2, 7)), (38, (2, 8)), (41, (2, 9)), (44, (2, 10)), (47, (2, 11))]
def KX2 : List (Nat × Value) := [(50, .long (-9223372036854775808))]
def SX2 : List (Nat × Nat) := []
theorem okF_X2 : ∀ e ∈ FX2, e.2.1 < 10 ∧ ∃ q, vwCl[e.2.1]? = some q ∧ e.2.2 < q.2.2 ∧ Cond.fieldLink RX2 e.1 (q.2.1 e.2.2).1 (q.2.1 e.2.2).2.1 (q.2.1 e.2.2).2.2.1 ∈ am_big := List.forall_mem_cons.mpr ⟨⟨by decide, (RX2, TX2, 12), rfl, by decide, wd_253⟩, List.forall_mem_cons.mpr ⟨⟨by decide, (RX2, TX2, 12), rfl, by decide, wd_254⟩, List.forall_mem_cons.mpr ⟨⟨by decide, (RX2, TX2, 12), rfl, by decide, wd_255⟩, List.forall_mem_cons.mpr ⟨⟨by decide, (RX2, TX2, 12), rfl, by decide, wd_256⟩, List.forall_mem_cons.mpr ⟨⟨by decide, (RX2, TX2, 12), rfl, by decide, wd_257⟩, List.forall_mem_cons.mpr ⟨⟨by decide, (RX2, TX2, 12), rfl, by decide, wd_258⟩, List.forall_mem_cons.mpr ⟨⟨by decide, (RX2, TX2, 12), rfl, by decide, wd_259⟩, List.forall_mem_cons.mpr ⟨⟨by decide, (RX2, TX2, 12), rfl, by decide, wd_260⟩, List.forall_mem_cons.mpr ⟨⟨by decide, (RX2, TX2, 12), rfl, by decide, wd_261⟩, List.forall_mem_cons.mpr ⟨⟨by decide, (RX2, TX2, 12), rfl, by decide, wd_262⟩, List.forall_mem_cons.mpr ⟨⟨by decide, (RX2, TX2, 12), rfl, by decide, wd_264⟩, List.forall_mem_cons.mpr ⟨⟨by decide, (RX2, TX2, 12), rfl, by decide, wd_266⟩, fun _ h => absurd h List.not_mem_nil⟩⟩⟩⟩⟩⟩⟩⟩⟩⟩⟩⟩
theorem okK_X2 : ∀ e ∈ KX2, (∀ x, e.2 = .int x → Cond.constant RX2 e.1 x ∈ am_big) ∧ (∀ x, e.2 = .long x → Cond.constantLong RX2 e.1 x ∈ am_big) := List.forall_mem_cons.mpr ⟨⟨fun x hx => (by cases hx), fun x hx => (by cases hx; exact wd_576)⟩, fun _ h => absurd h List.not_mem_nil⟩
theorem okS_X2 : ∀ e ∈ SX2, (e.2 = 99 ∧ Cond.fieldLink RX2 e.1 "StarPlates" "LEAST_SETTING" "[I" ∈ am_big) ∨ (e.2 = 100 ∧ Cond.fieldLink RX2 e.1 "StarPlates" "GREATEST_SETTING" "[I" ∈ am_big) := fun _ h => absurd h List.not_mem_nil
def FX3 : List (Nat × (Nat × Nat)) := [(9, (3, 0)), (15, (3, 1)), (18, (3, 2)), (21, (3, 3)), (25, (3, 4)), (29, (3, 5)), (32, (3, 6)), (36, (3, 7)), (39, (1, 3)), (42, (1, 0)), (45, (1, 1)), (54, (4, 1))]
def KX3 : List (Nat × Value) := []
def SX3 : List (Nat × Nat) := []
theorem okF_X3 : ∀ e ∈ FX3, e.2.1 < 10 ∧ ∃ q, vwCl[e.2.1]? = some q ∧ e.2.2 < q.2.2 ∧ Cond.fieldLink RX3 e.1 (q.2.1 e.2.2).1 (q.2.1 e.2.2).2.1 (q.2.1 e.2.2).2.2.1 ∈ am_big := List.forall_mem_cons.mpr ⟨⟨by decide, (RX3, TX3, 8), rfl, by decide, wd_299⟩, List.forall_mem_cons.mpr ⟨⟨by decide, (RX3, TX3, 8), rfl, by decide, wd_301⟩, List.forall_mem_cons.mpr ⟨⟨by decide, (RX3, TX3, 8), rfl, by decide, wd_303⟩, List.forall_mem_cons.mpr ⟨⟨by decide, (RX3, TX3, 8), rfl, by decide, wd_305⟩, List.forall_mem_cons.mpr ⟨⟨by decide, (RX3, TX3, 8), rfl, by decide, wd_307⟩, List.forall_mem_cons.mpr ⟨⟨by decide, (RX3, TX3, 8), rfl, by decide, wd_308⟩, List.forall_mem_cons.mpr ⟨⟨by decide, (RX3, TX3, 8), rfl, by decide, wd_309⟩, List.forall_mem_cons.mpr ⟨⟨by decide, (RX3, TX3, 8), rfl, by decide, wd_310⟩, List.forall_mem_cons.mpr ⟨⟨by decide, (RX1, TX1, 4), rfl, by decide, wd_94⟩, List.forall_mem_cons.mpr ⟨⟨by decide, (RX1, TX1, 4), rfl, by decide, wd_83⟩, List.forall_mem_cons.mpr ⟨⟨by decide, (RX1, TX1, 4), rfl, by decide, wd_87⟩, List.forall_mem_cons.mpr ⟨⟨by decide, (RX4, TX4, 3), rfl, by decide, wd_237⟩, fun _ h => absurd h List.not_mem_nil⟩⟩⟩⟩⟩⟩⟩⟩⟩⟩⟩⟩
theorem okK_X3 : ∀ e ∈ KX3, (∀ x, e.2 = .int x → Cond.constant RX3 e.1 x ∈ am_big) ∧ (∀ x, e.2 = .long x → Cond.constantLong RX3 e.1 x ∈ am_big) := fun _ h => absurd h List.not_mem_nil
theorem okS_X3 : ∀ e ∈ SX3, (e.2 = 99 ∧ Cond.fieldLink RX3 e.1 "StarPlates" "LEAST_SETTING" "[I" ∈ am_big) ∨ (e.2 = 100 ∧ Cond.fieldLink RX3 e.1 "StarPlates" "GREATEST_SETTING" "[I" ∈ am_big) := fun _ h => absurd h List.not_mem_nil
def FX4 : List (Nat × (Nat × Nat)) := [(9, (4, 0)), (15, (4, 1)), (19, (4, 2))]
def KX4 : List (Nat × Value) := []
def SX4 : List (Nat × Nat) := []
theorem okF_X4 : ∀ e ∈ FX4, e.2.1 < 10 ∧ ∃ q, vwCl[e.2.1]? = some q ∧ e.2.2 < q.2.2 ∧ Cond.fieldLink RX4 e.1 (q.2.1 e.2.2).1 (q.2.1 e.2.2).2.1 (q.2.1 e.2.2).2.2.1 ∈ am_big := List.forall_mem_cons.mpr ⟨⟨by decide, (RX4, TX4, 3), rfl, by decide, wd_234⟩, List.forall_mem_cons.mpr ⟨⟨by decide, (RX4, TX4, 3), rfl, by decide, wd_236⟩, List.forall_mem_cons.mpr ⟨⟨by decide, (RX4, TX4, 3), rfl, by decide, wd_238⟩, fun _ h => absurd h List.not_mem_nil⟩⟩⟩
theorem okK_X4 : ∀ e ∈ KX4, (∀ x, e.2 = .int x → Cond.constant RX4 e.1 x ∈ am_big) ∧ (∀ x, e.2 = .long x → Cond.constantLong RX4 e.1 x ∈ am_big) := fun _ h => absurd h List.not_mem_nil
theorem okS_X4 : ∀ e ∈ SX4, (e.2 = 99 ∧ Cond.fieldLink RX4 e.1 "StarPlates" "LEAST_SETTING" "[I" ∈ am_big) ∨ (e.2 = 100 ∧ Cond.fieldLink RX4 e.1 "StarPlates" "GREATEST_SETTING" "[I" ∈ am_big) := fun _ h => absurd h List.not_mem_nil
def FX5 : List (Nat × (Nat × Nat)) := [(7, (5, 0)), (13, (5, 1)), (33, (5, 2)), (39, (5, 3)), (43, (5, 4)), (46, (5, 5)), (49, (1, 0)), (54, (1, 1))]
def KX5 : List (Nat × Value) := [(37, .long (200))]
def SX5 : List (Nat × Nat) := []
theorem okF_X5 : ∀ e ∈ FX5, e.2.1 < 10 ∧ ∃ q, vwCl[e.2.1]? = some q ∧ e.2.2 < q.2.2 ∧ Cond.fieldLink RX5 e.1 (q.2.1 e.2.2).1 (q.2.1 e.2.2).2.1 (q.2.1 e.2.2).2.2.1 ∈ am_big := List.forall_mem_cons.mpr ⟨⟨by decide, (RX5, TX5, 6), rfl, by decide, wd_137⟩, List.forall_mem_cons.mpr ⟨⟨by decide, (RX5, TX5, 6), rfl, by decide, wd_140⟩, List.forall_mem_cons.mpr ⟨⟨by decide, (RX5, TX5, 6), rfl, by decide, wd_141⟩, List.forall_mem_cons.mpr ⟨⟨by decide, (RX5, TX5, 6), rfl, by decide, wd_144⟩, List.forall_mem_cons.mpr ⟨⟨by decide, (RX5, TX5, 6), rfl, by decide, wd_147⟩, List.forall_mem_cons.mpr ⟨⟨by decide, (RX5, TX5, 6), rfl, by decide, wd_150⟩, List.forall_mem_cons.mpr ⟨⟨by decide, (RX1, TX1, 4), rfl, by decide, wd_84⟩, List.forall_mem_cons.mpr ⟨⟨by decide, (RX1, TX1, 4), rfl, by decide, wd_88⟩, fun _ h => absurd h List.not_mem_nil⟩⟩⟩⟩⟩⟩⟩⟩
theorem okK_X5 : ∀ e ∈ KX5, (∀ x, e.2 = .int x → Cond.constant RX5 e.1 x ∈ am_big) ∧ (∀ x, e.2 = .long x → Cond.constantLong RX5 e.1 x ∈ am_big) := List.forall_mem_cons.mpr ⟨⟨fun x hx => (by cases hx), fun x hx => (by cases hx; exact wd_482)⟩, fun _ h => absurd h List.not_mem_nil⟩
theorem okS_X5 : ∀ e ∈ SX5, (e.2 = 99 ∧ Cond.fieldLink RX5 e.1 "StarPlates" "LEAST_SETTING" "[I" ∈ am_big) ∨ (e.2 = 100 ∧ Cond.fieldLink RX5 e.1 "StarPlates" "GREATEST_SETTING" "[I" ∈ am_big) := fun _ h => absurd h List.not_mem_nil
def FX6 : List (Nat × (Nat × Nat)) := [(12, (6, 0)), (18, (6, 1)), (22, (6, 2)), (25, (6, 3)), (28, (6, 4)), (31, (6, 5)), (34, (6, 6)), (37, (6, 7)), (41, (1, 3)), (51, (5, 2)), (55, (5, 0)), (58, (5, 3)), (60, (5, 4)), (62, (5, 5))]
def KX6 : List (Nat × Value) := []
def SX6 : List (Nat × Nat) := []
theorem okF_X6 : ∀ e ∈ FX6, e.2.1 < 10 ∧ ∃ q, vwCl[e.2.1]? = some q ∧ e.2.2 < q.2.2 ∧ Cond.fieldLink RX6 e.1 (q.2.1 e.2.2).1 (q.2.1 e.2.2).2.1 (q.2.1 e.2.2).2.2.1 ∈ am_big := List.forall_mem_cons.mpr ⟨⟨by decide, (RX6, TX6, 8), rfl, by decide, wd_181⟩, List.forall_mem_cons.mpr ⟨⟨by decide, (RX6, TX6, 8), rfl, by decide, wd_182⟩, List.forall_mem_cons.mpr ⟨⟨by decide, (RX6, TX6, 8), rfl, by decide, wd_184⟩, List.forall_mem_cons.mpr ⟨⟨by decide, (RX6, TX6, 8), rfl, by decide, wd_186⟩, List.forall_mem_cons.mpr ⟨⟨by decide, (RX6, TX6, 8), rfl, by decide, wd_188⟩, List.forall_mem_cons.mpr ⟨⟨by decide, (RX6, TX6, 8), rfl, by decide, wd_190⟩, List.forall_mem_cons.mpr ⟨⟨by decide, (RX6, TX6, 8), rfl, by decide, wd_192⟩, List.forall_mem_cons.mpr ⟨⟨by decide, (RX6, TX6, 8), rfl, by decide, wd_194⟩, List.forall_mem_cons.mpr ⟨⟨by decide, (RX1, TX1, 4), rfl, by decide, wd_93⟩, List.forall_mem_cons.mpr ⟨⟨by decide, (RX5, TX5, 6), rfl, by decide, wd_142⟩, List.forall_mem_cons.mpr ⟨⟨by decide, (RX5, TX5, 6), rfl, by decide, wd_138⟩, List.forall_mem_cons.mpr ⟨⟨by decide, (RX5, TX5, 6), rfl, by decide, wd_145⟩, List.forall_mem_cons.mpr ⟨⟨by decide, (RX5, TX5, 6), rfl, by decide, wd_148⟩, List.forall_mem_cons.mpr ⟨⟨by decide, (RX5, TX5, 6), rfl, by decide, wd_151⟩, fun _ h => absurd h List.not_mem_nil⟩⟩⟩⟩⟩⟩⟩⟩⟩⟩⟩⟩⟩⟩
theorem okK_X6 : ∀ e ∈ KX6, (∀ x, e.2 = .int x → Cond.constant RX6 e.1 x ∈ am_big) ∧ (∀ x, e.2 = .long x → Cond.constantLong RX6 e.1 x ∈ am_big) := fun _ h => absurd h List.not_mem_nil
theorem okS_X6 : ∀ e ∈ SX6, (e.2 = 99 ∧ Cond.fieldLink RX6 e.1 "StarPlates" "LEAST_SETTING" "[I" ∈ am_big) ∨ (e.2 = 100 ∧ Cond.fieldLink RX6 e.1 "StarPlates" "GREATEST_SETTING" "[I" ∈ am_big) := fun _ h => absurd h List.not_mem_nil
def FX7 : List (Nat × (Nat × Nat)) := [(9, (7, 0)), (15, (7, 1)), (19, (7, 2)), (23, (7, 3))]
def KX7 : List (Nat × Value) := []
def SX7 : List (Nat × Nat) := []
theorem okF_X7 : ∀ e ∈ FX7, e.2.1 < 10 ∧ ∃ q, vwCl[e.2.1]? = some q ∧ e.2.2 < q.2.2 ∧ Cond.fieldLink RX7 e.1 (q.2.1 e.2.2).1 (q.2.1 e.2.2).2.1 (q.2.1 e.2.2).2.2.1 ∈ am_big := List.forall_mem_cons.mpr ⟨⟨by decide, (RX7, TX7, 4), rfl, by decide, wd_114⟩, List.forall_mem_cons.mpr ⟨⟨by decide, (RX7, TX7, 4), rfl, by decide, wd_116⟩, List.forall_mem_cons.mpr ⟨⟨by decide, (RX7, TX7, 4), rfl, by decide, wd_118⟩, List.forall_mem_cons.mpr ⟨⟨by decide, (RX7, TX7, 4), rfl, by decide, wd_119⟩, fun _ h => absurd h List.not_mem_nil⟩⟩⟩⟩
theorem okK_X7 : ∀ e ∈ KX7, (∀ x, e.2 = .int x → Cond.constant RX7 e.1 x ∈ am_big) ∧ (∀ x, e.2 = .long x → Cond.constantLong RX7 e.1 x ∈ am_big) := fun _ h => absurd h List.not_mem_nil
theorem okS_X7 : ∀ e ∈ SX7, (e.2 = 99 ∧ Cond.fieldLink RX7 e.1 "StarPlates" "LEAST_SETTING" "[I" ∈ am_big) ∨ (e.2 = 100 ∧ Cond.fieldLink RX7 e.1 "StarPlates" "GREATEST_SETTING" "[I" ∈ am_big) := fun _ h => absurd h List.not_mem_nil
def FX9 : List (Nat × (Nat × Nat)) := [(7, (9, 0)), (13, (9, 1)), (16, (9, 2)), (19, (9, 3)), (23, (9, 4)), (26, (9, 12)), (29, (9, 14)), (32, (9, 16)), (35, (9, 17)), (38, (9, 26)), (41, (9, 27)), (44, (9, 29)), (47, (9, 30)), (50, (9, 31)), (54, (9, 32)), (57, (9, 33)), (60, (9, 34)), (63, (9, 35)), (66, (9, 36)), (69, (9, 37)), (72, (9, 38)), (133, (9, 10)), (141, (9, 5)), (144, (9, 6)), (147, (9, 7)), (152, (9, 8)), (155, (9, 9)), (177, (9, 11)), (180, (9, 13)), (183, (9, 15)), (199, (9, 19)), (203, (9, 20)), (206, (9, 21)), (209, (9, 22)), (212, (9, 23)), (215, (9, 24)), (218, (9, 25)), (221, (9, 18)), (267, (9, 28))]
def KX9 : List (Nat × Value) := [(22, .int (40000)), (101, .int (8388607)), (108, .int (8388608)), (119, .long (2)), (121, .long (16777216)), (123, .long (8388608)), (125, .int (-2147483648)), (126, .int (2147483647)), (127, .int (1000000)), (128, .int (10000000)), (150, .long (200)), (251, .long (-9223372036854775808))]
def SX9 : List (Nat × Nat) := []
theorem okF_X9 : ∀ e ∈ FX9, e.2.1 < 10 ∧ ∃ q, vwCl[e.2.1]? = some q ∧ e.2.2 < q.2.2 ∧ Cond.fieldLink RX9 e.1 (q.2.1 e.2.2).1 (q.2.1 e.2.2).2.1 (q.2.1 e.2.2).2.2.1 ∈ am_big := List.forall_mem_cons.mpr ⟨⟨by decide, (RX9, TX9, 39), rfl, by decide, wd_725⟩, List.forall_mem_cons.mpr ⟨⟨by decide, (RX9, TX9, 39), rfl, by decide, wd_726⟩, List.forall_mem_cons.mpr ⟨⟨by decide, (RX9, TX9, 39), rfl, by decide, wd_727⟩, List.forall_mem_cons.mpr ⟨⟨by decide, (RX9, TX9, 39), rfl, by decide, wd_728⟩, List.forall_mem_cons.mpr ⟨⟨by decide, (RX9, TX9, 39), rfl, by decide, wd_729⟩, List.forall_mem_cons.mpr ⟨⟨by decide, (RX9, TX9, 39), rfl, by decide, wd_737⟩, List.forall_mem_cons.mpr ⟨⟨by decide, (RX9, TX9, 39), rfl, by decide, wd_739⟩, List.forall_mem_cons.mpr ⟨⟨by decide, (RX9, TX9, 39), rfl, by decide, wd_741⟩, List.forall_mem_cons.mpr ⟨⟨by decide, (RX9, TX9, 39), rfl, by decide, wd_742⟩, List.forall_mem_cons.mpr ⟨⟨by decide, (RX9, TX9, 39), rfl, by decide, wd_751⟩, List.forall_mem_cons.mpr ⟨⟨by decide, (RX9, TX9, 39), rfl, by decide, wd_752⟩, List.forall_mem_cons.mpr ⟨⟨by decide, (RX9, TX9, 39), rfl, by decide, wd_754⟩, List.forall_mem_cons.mpr ⟨⟨by decide, (RX9, TX9, 39), rfl, by decide, wd_755⟩, List.forall_mem_cons.mpr ⟨⟨by decide, (RX9, TX9, 39), rfl, by decide, wd_756⟩, List.forall_mem_cons.mpr ⟨⟨by decide, (RX9, TX9, 39), rfl, by decide, wd_757⟩, List.forall_mem_cons.mpr ⟨⟨by decide, (RX9, TX9, 39), rfl, by decide, wd_758⟩, List.forall_mem_cons.mpr ⟨⟨by decide, (RX9, TX9, 39), rfl, by decide, wd_759⟩, List.forall_mem_cons.mpr ⟨⟨by decide, (RX9, TX9, 39), rfl, by decide, wd_760⟩, List.forall_mem_cons.mpr ⟨⟨by decide, (RX9, TX9, 39), rfl, by decide, wd_761⟩, List.forall_mem_cons.mpr ⟨⟨by decide, (RX9, TX9, 39), rfl, by decide, wd_762⟩, List.forall_mem_cons.mpr ⟨⟨by decide, (RX9, TX9, 39), rfl, by decide, wd_763⟩, List.forall_mem_cons.mpr ⟨⟨by decide, (RX9, TX9, 39), rfl, by decide, wd_735⟩, List.forall_mem_cons.mpr ⟨⟨by decide, (RX9, TX9, 39), rfl, by decide, wd_730⟩, List.forall_mem_cons.mpr ⟨⟨by decide, (RX9, TX9, 39), rfl, by decide, wd_731⟩, List.forall_mem_cons.mpr ⟨⟨by decide, (RX9, TX9, 39), rfl, by decide, wd_732⟩, List.forall_mem_cons.mpr ⟨⟨by decide, (RX9, TX9, 39), rfl, by decide, wd_733⟩, List.forall_mem_cons.mpr ⟨⟨by decide, (RX9, TX9, 39), rfl, by decide, wd_734⟩, List.forall_mem_cons.mpr ⟨⟨by decide, (RX9, TX9, 39), rfl, by decide, wd_736⟩, List.forall_mem_cons.mpr ⟨⟨by decide, (RX9, TX9, 39), rfl, by decide, wd_738⟩, List.forall_mem_cons.mpr ⟨⟨by decide, (RX9, TX9, 39), rfl, by decide, wd_740⟩, List.forall_mem_cons.mpr ⟨⟨by decide, (RX9, TX9, 39), rfl, by decide, wd_744⟩, List.forall_mem_cons.mpr ⟨⟨by decide, (RX9, TX9, 39), rfl, by decide, wd_745⟩, List.forall_mem_cons.mpr ⟨⟨by decide, (RX9, TX9, 39), rfl, by decide, wd_746⟩, List.forall_mem_cons.mpr ⟨⟨by decide, (RX9, TX9, 39), rfl, by decide, wd_747⟩, List.forall_mem_cons.mpr ⟨⟨by decide, (RX9, TX9, 39), rfl, by decide, wd_748⟩, List.forall_mem_cons.mpr ⟨⟨by decide, (RX9, TX9, 39), rfl, by decide, wd_749⟩, List.forall_mem_cons.mpr ⟨⟨by decide, (RX9, TX9, 39), rfl, by decide, wd_750⟩, List.forall_mem_cons.mpr ⟨⟨by decide, (RX9, TX9, 39), rfl, by decide, wd_743⟩, List.forall_mem_cons.mpr ⟨⟨by decide, (RX9, TX9, 39), rfl, by decide, wd_753⟩, fun _ h => absurd h List.not_mem_nil⟩⟩⟩⟩⟩⟩⟩⟩⟩⟩⟩⟩⟩⟩⟩⟩⟩⟩⟩⟩⟩⟩⟩⟩⟩⟩⟩⟩⟩⟩⟩⟩⟩⟩⟩⟩⟩⟩⟩
theorem okK_X9 : ∀ e ∈ KX9, (∀ x, e.2 = .int x → Cond.constant RX9 e.1 x ∈ am_big) ∧ (∀ x, e.2 = .long x → Cond.constantLong RX9 e.1 x ∈ am_big) := List.forall_mem_cons.mpr ⟨⟨fun x hx => (by cases hx; exact wd_724), fun x hx => (by cases hx)⟩, List.forall_mem_cons.mpr ⟨⟨fun x hx => (by cases hx; exact wd_909), fun x hx => (by cases hx)⟩, List.forall_mem_cons.mpr ⟨⟨fun x hx => (by cases hx; exact wd_913), fun x hx => (by cases hx)⟩, List.forall_mem_cons.mpr ⟨⟨fun x hx => (by cases hx), fun x hx => (by cases hx; exact wd_918)⟩, List.forall_mem_cons.mpr ⟨⟨fun x hx => (by cases hx), fun x hx => (by cases hx; exact wd_919)⟩, List.forall_mem_cons.mpr ⟨⟨fun x hx => (by cases hx), fun x hx => (by cases hx; exact wd_920)⟩, List.forall_mem_cons.mpr ⟨⟨fun x hx => (by cases hx; exact wd_921), fun x hx => (by cases hx)⟩, List.forall_mem_cons.mpr ⟨⟨fun x hx => (by cases hx; exact wd_926), fun x hx => (by cases hx)⟩, List.forall_mem_cons.mpr ⟨⟨fun x hx => (by cases hx; exact wd_931), fun x hx => (by cases hx)⟩, List.forall_mem_cons.mpr ⟨⟨fun x hx => (by cases hx; exact wd_932), fun x hx => (by cases hx)⟩, List.forall_mem_cons.mpr ⟨⟨fun x hx => (by cases hx), fun x hx => (by cases hx; exact wd_953)⟩, List.forall_mem_cons.mpr ⟨⟨fun x hx => (by cases hx), fun x hx => (by cases hx; exact wd_1028)⟩, fun _ h => absurd h List.not_mem_nil⟩⟩⟩⟩⟩⟩⟩⟩⟩⟩⟩⟩
theorem okS_X9 : ∀ e ∈ SX9, (e.2 = 99 ∧ Cond.fieldLink RX9 e.1 "StarPlates" "LEAST_SETTING" "[I" ∈ am_big) ∨ (e.2 = 100 ∧ Cond.fieldLink RX9 e.1 "StarPlates" "GREATEST_SETTING" "[I" ∈ am_big) := fun _ h => absurd h List.not_mem_nil
def FJ9 : List (Nat × (Nat × Nat)) := []
def KJ9 : List (Nat × Value) := []
def SJ9 : List (Nat × Nat) := []
theorem okF_J9 : ∀ e ∈ FJ9, e.2.1 < 10 ∧ ∃ q, vwCl[e.2.1]? = some q ∧ e.2.2 < q.2.2 ∧ Cond.fieldLink RJ9 e.1 (q.2.1 e.2.2).1 (q.2.1 e.2.2).2.1 (q.2.1 e.2.2).2.2.1 ∈ am_big := fun _ h => absurd h List.not_mem_nil
theorem okK_J9 : ∀ e ∈ KJ9, (∀ x, e.2 = .int x → Cond.constant RJ9 e.1 x ∈ am_big) ∧ (∀ x, e.2 = .long x → Cond.constantLong RJ9 e.1 x ∈ am_big) := fun _ h => absurd h List.not_mem_nil
theorem okS_J9 : ∀ e ∈ SJ9, (e.2 = 99 ∧ Cond.fieldLink RJ9 e.1 "StarPlates" "LEAST_SETTING" "[I" ∈ am_big) ∨ (e.2 = 100 ∧ Cond.fieldLink RJ9 e.1 "StarPlates" "GREATEST_SETTING" "[I" ∈ am_big) := fun _ h => absurd h List.not_mem_nil
def FJ7 : List (Nat × (Nat × Nat)) := []
def KJ7 : List (Nat × Value) := []
def SJ7 : List (Nat × Nat) := []
theorem okF_J7 : ∀ e ∈ FJ7, e.2.1 < 10 ∧ ∃ q, vwCl[e.2.1]? = some q ∧ e.2.2 < q.2.2 ∧ Cond.fieldLink RJ7 e.1 (q.2.1 e.2.2).1 (q.2.1 e.2.2).2.1 (q.2.1 e.2.2).2.2.1 ∈ am_big := fun _ h => absurd h List.not_mem_nil
theorem okK_J7 : ∀ e ∈ KJ7, (∀ x, e.2 = .int x → Cond.constant RJ7 e.1 x ∈ am_big) ∧ (∀ x, e.2 = .long x → Cond.constantLong RJ7 e.1 x ∈ am_big) := fun _ h => absurd h List.not_mem_nil
theorem okS_J7 : ∀ e ∈ SJ7, (e.2 = 99 ∧ Cond.fieldLink RJ7 e.1 "StarPlates" "LEAST_SETTING" "[I" ∈ am_big) ∨ (e.2 = 100 ∧ Cond.fieldLink RJ7 e.1 "StarPlates" "GREATEST_SETTING" "[I" ∈ am_big) := fun _ h => absurd h List.not_mem_nil
noncomputable def MX5_squareBetween : List (Nat × am_M) := []
noncomputable def GX5_squareBetween : am_G := (am_al FX5, am_al KX5, am_al SX5, am_al MX5_squareBetween)
noncomputable def fX5_squareBetween : List Value → am_H → am_R := am_fn 2 GX5_squareBetween cX5_squareBetween 7
theorem kX5_squareBetween (l : Launch) (D : va_G) (ad : Nat → Nat) (cA : Nat → ClassId) (A : Nat → Prop) (hlay : am_lays) : am_Met l D ad cA A yX5_squareBetween cX5_squareBetween 7 (some .long) { frames := 0, cells := 0, slots := 0, locals := 0 } fX5_squareBetween := by
  have hm : ∀ e ∈ MX5_squareBetween, am_cc l D ad cA A yX5_squareBetween.cls { frames := 0, cells := 0, slots := 0, locals := 0 } e.1 e.2 := fun _ h => absurd h List.not_mem_nil
  exact am_meth (G := GX5_squareBetween) (rk := 2) (plainFor_of_name (by decide)) hlay (fun i z h => okF_X5 _ (am_al_in h)) (fun i z h => okK_X5 _ (am_al_in h)) (fun i z h => okS_X5 _ (am_al_in h)) (Or.inr (Or.inr (Or.inl ⟨rfl, rfl⟩))) (fun i z h => hm _ (am_al_in h))
theorem lX5_squareBetween_49 : GX5_squareBetween.1 49 = some (1, 0) := rfl
theorem lX5_squareBetween_54 : GX5_squareBetween.1 54 = some (1, 1) := rfl
noncomputable def MX5_put : List (Nat × am_M) := []
noncomputable def GX5_put : am_G := (am_al FX5, am_al KX5, am_al SX5, am_al MX5_put)
noncomputable def fX5_put : List Value → am_H → am_R := am_fn 3 GX5_put cX5_put 5
theorem kX5_put (l : Launch) (D : va_G) (ad : Nat → Nat) (cA : Nat → ClassId) (A : Nat → Prop) (hlay : am_lays) : am_Met l D ad cA A yX5_put cX5_put 5 none { frames := 0, cells := 0, slots := 0, locals := 0 } fX5_put := by
  have hm : ∀ e ∈ MX5_put, am_cc l D ad cA A yX5_put.cls { frames := 0, cells := 0, slots := 0, locals := 0 } e.1 e.2 := fun _ h => absurd h List.not_mem_nil
  exact am_meth (G := GX5_put) (rk := 3) (plainFor_of_name (by decide)) hlay (fun i z h => okF_X5 _ (am_al_in h)) (fun i z h => okK_X5 _ (am_al_in h)) (fun i z h => okS_X5 _ (am_al_in h)) (Or.inr (Or.inr (Or.inr ⟨rfl, rfl⟩))) (fun i z h => hm _ (am_al_in h))
theorem lX5_put_7 : GX5_put.1 7 = some (5, 0) := rfl
theorem lX5_put_13 : GX5_put.1 13 = some (5, 1) := rfl
noncomputable def MX5_order : List (Nat × am_M) := []
noncomputable def GX5_order : am_G := (am_al FX5, am_al KX5, am_al SX5, am_al MX5_order)
noncomputable def fX5_order : List Value → am_H → am_R := am_fn 3 GX5_order cX5_order 6
theorem kX5_order (l : Launch) (D : va_G) (ad : Nat → Nat) (cA : Nat → ClassId) (A : Nat → Prop) (hlay : am_lays) : am_Met l D ad cA A yX5_order cX5_order 6 none { frames := 0, cells := 0, slots := 0, locals := 0 } fX5_order := by
  have hm : ∀ e ∈ MX5_order, am_cc l D ad cA A yX5_order.cls { frames := 0, cells := 0, slots := 0, locals := 0 } e.1 e.2 := fun _ h => absurd h List.not_mem_nil
  exact am_meth (G := GX5_order) (rk := 3) (plainFor_of_name (by decide)) hlay (fun i z h => okF_X5 _ (am_al_in h)) (fun i z h => okK_X5 _ (am_al_in h)) (fun i z h => okS_X5 _ (am_al_in h)) (Or.inr (Or.inr (Or.inr ⟨rfl, rfl⟩))) (fun i z h => hm _ (am_al_in h))
theorem lX5_order_13 : GX5_order.1 13 = some (5, 1) := rfl
theorem lX5_order_7 : GX5_order.1 7 = some (5, 0) := rfl
noncomputable def MX5_turnOf : List (Nat × am_M) := []
noncomputable def GX5_turnOf : am_G := (am_al FX5, am_al KX5, am_al SX5, am_al MX5_turnOf)
noncomputable def fX5_turnOf : List Value → am_H → am_R := am_fn 2 GX5_turnOf cX5_turnOf 9
theorem kX5_turnOf (l : Launch) (D : va_G) (ad : Nat → Nat) (cA : Nat → ClassId) (A : Nat → Prop) (hlay : am_lays) : am_Met l D ad cA A yX5_turnOf cX5_turnOf 9 (some .long) { frames := 0, cells := 0, slots := 0, locals := 0 } fX5_turnOf := by
  have hm : ∀ e ∈ MX5_turnOf, am_cc l D ad cA A yX5_turnOf.cls { frames := 0, cells := 0, slots := 0, locals := 0 } e.1 e.2 := fun _ h => absurd h List.not_mem_nil
  exact am_meth (G := GX5_turnOf) (rk := 2) (plainFor_of_name (by decide)) hlay (fun i z h => okF_X5 _ (am_al_in h)) (fun i z h => okK_X5 _ (am_al_in h)) (fun i z h => okS_X5 _ (am_al_in h)) (Or.inr (Or.inr (Or.inl ⟨rfl, rfl⟩))) (fun i z h => hm _ (am_al_in h))
theorem lX5_turnOf_7 : GX5_turnOf.1 7 = some (5, 0) := rfl
theorem lX5_turnOf_49 : GX5_turnOf.1 49 = some (1, 0) := rfl
theorem lX5_turnOf_54 : GX5_turnOf.1 54 = some (1, 1) := rfl
noncomputable def MX5_measure : List (Nat × am_M) := [(17, (none, 3, fX5_squareBetween)), (21, (some 5, 3, fX5_put)), (25, (some 5, 2, fX5_order)), (29, (some 5, 1, fX5_turnOf))]
noncomputable def GX5_measure : am_G := (am_al FX5, am_al KX5, am_al SX5, am_al MX5_measure)
noncomputable def fX5_measure : List Value → am_H → am_R := am_fn 3 GX5_measure cX5_measure 7
theorem kX5_measure (l : Launch) (D : va_G) (ad : Nat → Nat) (cA : Nat → ClassId) (A : Nat → Prop) (hlay : am_lays) : am_Met l D ad cA A yX5_measure cX5_measure 7 none { frames := 1, cells := 0, slots := 0, locals := 28 } fX5_measure := by
  have hm : ∀ e ∈ MX5_measure, am_cc l D ad cA A yX5_measure.cls { frames := 1, cells := 0, slots := 0, locals := 28 } e.1 e.2 := List.forall_mem_cons.mpr ⟨Or.inr (Or.inl ⟨yX5_squareBetween, cX5_squareBetween, 7, (some .long), { frames := 0, cells := 0, slots := 0, locals := 0 }, fX5_squareBetween, 3, rfl, kX5_squareBetween l D ad cA A hlay, ⟨wd_469, wd_58, wd_467, by decide +kernel⟩, wd_468, rfl, rfl, by decide, by decide⟩), List.forall_mem_cons.mpr ⟨Or.inl ⟨yX5_put, cX5_put, 5, none, { frames := 0, cells := 0, slots := 0, locals := 0 }, fX5_put, 3, 5, TX5, 6, rfl, kX5_put l D ad cA A hlay, ⟨wd_473, wd_58, wd_470, by decide +kernel⟩, wd_472, wd_2, rfl, by decide, rfl, rfl, by decide, by decide⟩, List.forall_mem_cons.mpr ⟨Or.inl ⟨yX5_order, cX5_order, 6, none, { frames := 0, cells := 0, slots := 0, locals := 0 }, fX5_order, 2, 5, TX5, 6, rfl, kX5_order l D ad cA A hlay, ⟨wd_477, wd_58, wd_474, by decide +kernel⟩, wd_476, wd_3, rfl, by decide, rfl, rfl, by decide, by decide⟩, List.forall_mem_cons.mpr ⟨Or.inl ⟨yX5_turnOf, cX5_turnOf, 9, (some .long), { frames := 0, cells := 0, slots := 0, locals := 0 }, fX5_turnOf, 1, 5, TX5, 6, rfl, kX5_turnOf l D ad cA A hlay, ⟨wd_481, wd_58, wd_478, by decide +kernel⟩, wd_480, wd_4, rfl, by decide, rfl, rfl, by decide, by decide⟩, fun _ h => absurd h List.not_mem_nil⟩⟩⟩⟩
  exact am_meth (G := GX5_measure) (rk := 3) (plainFor_of_name (by decide)) hlay (fun i z h => okF_X5 _ (am_al_in h)) (fun i z h => okK_X5 _ (am_al_in h)) (fun i z h => okS_X5 _ (am_al_in h)) (Or.inr (Or.inr (Or.inr ⟨rfl, rfl⟩))) (fun i z h => hm _ (am_al_in h))
theorem lX5_measure_17 : GX5_measure.2.2.2 17 = some (none, 3, fX5_squareBetween) := rfl
theorem lX5_measure_21 : GX5_measure.2.2.2 21 = some (some 5, 3, fX5_put) := rfl
theorem lX5_measure_25 : GX5_measure.2.2.2 25 = some (some 5, 2, fX5_order) := rfl
theorem lX5_measure_29 : GX5_measure.2.2.2 29 = some (some 5, 1, fX5_turnOf) := rfl
theorem lX5_measure_13 : GX5_measure.1 13 = some (5, 1) := rfl
theorem lX5_measure_33 : GX5_measure.1 33 = some (5, 2) := rfl
theorem lX5_measure_37 : GX5_measure.2.1 37 = some (.long (200)) := rfl
theorem lX5_measure_39 : GX5_measure.1 39 = some (5, 3) := rfl
theorem lX5_measure_43 : GX5_measure.1 43 = some (5, 4) := rfl
theorem lX5_measure_46 : GX5_measure.1 46 = some (5, 5) := rfl
noncomputable def MX6_append : List (Nat × am_M) := []
noncomputable def GX6_append : am_G := (am_al FX6, am_al KX6, am_al SX6, am_al MX6_append)
noncomputable def fX6_append : List Value → am_H → am_R := am_fn 3 GX6_append cX6_append 1
theorem kX6_append (l : Launch) (D : va_G) (ad : Nat → Nat) (cA : Nat → ClassId) (A : Nat → Prop) (hlay : am_lays) : am_Met l D ad cA A yX6_append cX6_append 1 none { frames := 0, cells := 0, slots := 0, locals := 0 } fX6_append := by
  have hm : ∀ e ∈ MX6_append, am_cc l D ad cA A yX6_append.cls { frames := 0, cells := 0, slots := 0, locals := 0 } e.1 e.2 := fun _ h => absurd h List.not_mem_nil
  exact am_meth (G := GX6_append) (rk := 3) (plainFor_of_name (by decide)) hlay (fun i z h => okF_X6 _ (am_al_in h)) (fun i z h => okK_X6 _ (am_al_in h)) (fun i z h => okS_X6 _ (am_al_in h)) (Or.inr (Or.inr (Or.inr ⟨rfl, rfl⟩))) (fun i z h => hm _ (am_al_in h))
theorem lX6_append_12 : GX6_append.1 12 = some (6, 0) := rfl
theorem lX6_append_51 : GX6_append.1 51 = some (5, 2) := rfl
theorem lX6_append_37 : GX6_append.1 37 = some (6, 7) := rfl
theorem lX6_append_18 : GX6_append.1 18 = some (6, 1) := rfl
theorem lX6_append_55 : GX6_append.1 55 = some (5, 0) := rfl
theorem lX6_append_22 : GX6_append.1 22 = some (6, 2) := rfl
theorem lX6_append_25 : GX6_append.1 25 = some (6, 3) := rfl
theorem lX6_append_28 : GX6_append.1 28 = some (6, 4) := rfl
theorem lX6_append_58 : GX6_append.1 58 = some (5, 3) := rfl
theorem lX6_append_31 : GX6_append.1 31 = some (6, 5) := rfl
theorem lX6_append_60 : GX6_append.1 60 = some (5, 4) := rfl
theorem lX6_append_34 : GX6_append.1 34 = some (6, 6) := rfl
theorem lX6_append_62 : GX6_append.1 62 = some (5, 5) := rfl
noncomputable def MX6_gather : List (Nat × am_M) := [(44, (some 5, 4, fX5_measure)), (48, (some 6, 0, fX6_append))]
noncomputable def GX6_gather : am_G := (am_al FX6, am_al KX6, am_al SX6, am_al MX6_gather)
noncomputable def fX6_gather : List Value → am_H → am_R := am_fn 3 GX6_gather cX6_gather 5
theorem kX6_gather (l : Launch) (D : va_G) (ad : Nat → Nat) (cA : Nat → ClassId) (A : Nat → Prop) (hlay : am_lays) : am_Met l D ad cA A yX6_gather cX6_gather 5 none { frames := 2, cells := 0, slots := 0, locals := 54 } fX6_gather := by
  have hm : ∀ e ∈ MX6_gather, am_cc l D ad cA A yX6_gather.cls { frames := 2, cells := 0, slots := 0, locals := 54 } e.1 e.2 := List.forall_mem_cons.mpr ⟨Or.inl ⟨yX5_measure, cX5_measure, 7, none, { frames := 1, cells := 0, slots := 0, locals := 28 }, fX5_measure, 4, 5, TX5, 6, rfl, kX5_measure l D ad cA A hlay, ⟨wd_466, wd_58, wd_495, by decide +kernel⟩, wd_464, wd_465, rfl, by decide, rfl, rfl, by decide, by decide⟩, List.forall_mem_cons.mpr ⟨Or.inl ⟨yX6_append, cX6_append, 1, none, { frames := 0, cells := 0, slots := 0, locals := 0 }, fX6_append, 0, 6, TX6, 8, rfl, kX6_append l D ad cA A hlay, ⟨wd_499, wd_60, wd_496, by decide +kernel⟩, wd_498, wd_5, rfl, by decide, rfl, rfl, by decide, by decide⟩, fun _ h => absurd h List.not_mem_nil⟩⟩
  exact am_meth (G := GX6_gather) (rk := 3) (plainFor_of_name (by decide)) hlay (fun i z h => okF_X6 _ (am_al_in h)) (fun i z h => okK_X6 _ (am_al_in h)) (fun i z h => okS_X6 _ (am_al_in h)) (Or.inr (Or.inr (Or.inr ⟨rfl, rfl⟩))) (fun i z h => hm _ (am_al_in h))
theorem lX6_gather_37 : GX6_gather.1 37 = some (6, 7) := rfl
theorem lX6_gather_41 : GX6_gather.1 41 = some (1, 3) := rfl
theorem lX6_gather_12 : GX6_gather.1 12 = some (6, 0) := rfl
theorem lX6_gather_44 : GX6_gather.2.2.2 44 = some (some 5, 4, fX5_measure) := rfl
theorem lX6_gather_48 : GX6_gather.2.2.2 48 = some (some 6, 0, fX6_append) := rfl
noncomputable def MJ7_fill_53178 : List (Nat × am_M) := []
noncomputable def GJ7_fill_53178 : am_G := (am_al FJ7, am_al KJ7, am_al SJ7, am_al MJ7_fill_53178)
noncomputable def fJ7_fill_53178 : List Value → am_H → am_R := am_fn 3 GJ7_fill_53178 cJ7_fill_53178 4
theorem kJ7_fill_53178 (l : Launch) (D : va_G) (ad : Nat → Nat) (cA : Nat → ClassId) (A : Nat → Prop) (hlay : am_lays) : am_Met l D ad cA A yJ7_fill_53178 cJ7_fill_53178 4 none { frames := 0, cells := 0, slots := 0, locals := 0 } fJ7_fill_53178 := by
  have hm : ∀ e ∈ MJ7_fill_53178, am_cc l D ad cA A yJ7_fill_53178.cls { frames := 0, cells := 0, slots := 0, locals := 0 } e.1 e.2 := fun _ h => absurd h List.not_mem_nil
  exact am_meth (G := GJ7_fill_53178) (rk := 3) (plainFor_of_name (by decide)) hlay (fun i z h => okF_J7 _ (am_al_in h)) (fun i z h => okK_J7 _ (am_al_in h)) (fun i z h => okS_J7 _ (am_al_in h)) (Or.inr (Or.inr (Or.inr ⟨rfl, rfl⟩))) (fun i z h => hm _ (am_al_in h))
noncomputable def MJ9_abs_0f7a4 : List (Nat × am_M) := []
noncomputable def GJ9_abs_0f7a4 : am_G := (am_al FJ9, am_al KJ9, am_al SJ9, am_al MJ9_abs_0f7a4)
noncomputable def fJ9_abs_0f7a4 : List Value → am_H → am_R := am_fn 0 GJ9_abs_0f7a4 cJ9_abs_0f7a4 1
theorem kJ9_abs_0f7a4 (l : Launch) (D : va_G) (ad : Nat → Nat) (cA : Nat → ClassId) (A : Nat → Prop) (hlay : am_lays) : am_Met l D ad cA A yJ9_abs_0f7a4 cJ9_abs_0f7a4 1 (some .int) { frames := 0, cells := 0, slots := 0, locals := 0 } fJ9_abs_0f7a4 := by
  have hm : ∀ e ∈ MJ9_abs_0f7a4, am_cc l D ad cA A yJ9_abs_0f7a4.cls { frames := 0, cells := 0, slots := 0, locals := 0 } e.1 e.2 := fun _ h => absurd h List.not_mem_nil
  exact am_meth (G := GJ9_abs_0f7a4) (rk := 0) (by decide +kernel) hlay (fun i z h => okF_J9 _ (am_al_in h)) (fun i z h => okK_J9 _ (am_al_in h)) (fun i z h => okS_J9 _ (am_al_in h)) (Or.inl ⟨rfl, rfl⟩) (fun i z h => hm _ (am_al_in h))
noncomputable def MX0_isAlike : List (Nat × am_M) := [(56, (none, 1, fJ9_abs_0f7a4))]
noncomputable def GX0_isAlike : am_G := (am_al FX0, am_al KX0, am_al SX0, am_al MX0_isAlike)
noncomputable def fX0_isAlike : List Value → am_H → am_R := am_fn 1 GX0_isAlike cX0_isAlike 4
theorem kX0_isAlike (l : Launch) (D : va_G) (ad : Nat → Nat) (cA : Nat → ClassId) (A : Nat → Prop) (hlay : am_lays) : am_Met l D ad cA A yX0_isAlike cX0_isAlike 4 (some .boolean) { frames := 1, cells := 0, slots := 0, locals := 20 } fX0_isAlike := by
  have hm : ∀ e ∈ MX0_isAlike, am_cc l D ad cA A yX0_isAlike.cls { frames := 1, cells := 0, slots := 0, locals := 20 } e.1 e.2 := List.forall_mem_cons.mpr ⟨Or.inr (Or.inl ⟨yJ9_abs_0f7a4, cJ9_abs_0f7a4, 1, (some .int), { frames := 0, cells := 0, slots := 0, locals := 0 }, fJ9_abs_0f7a4, 1, rfl, kJ9_abs_0f7a4 l D ad cA A hlay, ⟨wd_509, wd_65, wd_507, by decide +kernel⟩, wd_508, rfl, rfl, by decide, by decide⟩), fun _ h => absurd h List.not_mem_nil⟩
  exact am_meth (G := GX0_isAlike) (rk := 1) (plainFor_of_name (by decide)) hlay (fun i z h => okF_X0 _ (am_al_in h)) (fun i z h => okK_X0 _ (am_al_in h)) (fun i z h => okS_X0 _ (am_al_in h)) (Or.inr (Or.inl ⟨rfl, rfl⟩)) (fun i z h => hm _ (am_al_in h))
theorem lX0_isAlike_12 : GX0_isAlike.1 12 = some (0, 0) := rfl
theorem lX0_isAlike_50 : GX0_isAlike.1 50 = some (6, 6) := rfl
theorem lX0_isAlike_18 : GX0_isAlike.1 18 = some (0, 1) := rfl
theorem lX0_isAlike_53 : GX0_isAlike.1 53 = some (6, 4) := rfl
theorem lX0_isAlike_56 : GX0_isAlike.2.2.2 56 = some (none, 1, fJ9_abs_0f7a4) := rfl
theorem lX0_isAlike_62 : GX0_isAlike.1 62 = some (6, 5) := rfl
noncomputable def MX0_cast : List (Nat × am_M) := []
noncomputable def GX0_cast : am_G := (am_al FX0, am_al KX0, am_al SX0, am_al MX0_cast)
noncomputable def fX0_cast : List Value → am_H → am_R := am_fn 3 GX0_cast cX0_cast 3
theorem kX0_cast (l : Launch) (D : va_G) (ad : Nat → Nat) (cA : Nat → ClassId) (A : Nat → Prop) (hlay : am_lays) : am_Met l D ad cA A yX0_cast cX0_cast 3 none { frames := 0, cells := 0, slots := 0, locals := 0 } fX0_cast := by
  have hm : ∀ e ∈ MX0_cast, am_cc l D ad cA A yX0_cast.cls { frames := 0, cells := 0, slots := 0, locals := 0 } e.1 e.2 := fun _ h => absurd h List.not_mem_nil
  exact am_meth (G := GX0_cast) (rk := 3) (plainFor_of_name (by decide)) hlay (fun i z h => okF_X0 _ (am_al_in h)) (fun i z h => okK_X0 _ (am_al_in h)) (fun i z h => okS_X0 _ (am_al_in h)) (Or.inr (Or.inr (Or.inr ⟨rfl, rfl⟩))) (fun i z h => hm _ (am_al_in h))
theorem lX0_cast_25 : GX0_cast.1 25 = some (0, 3) := rfl
theorem lX0_cast_21 : GX0_cast.1 21 = some (0, 2) := rfl
theorem lX0_cast_12 : GX0_cast.1 12 = some (0, 0) := rfl
theorem lX0_cast_65 : GX0_cast.1 65 = some (6, 1) := rfl
theorem lX0_cast_18 : GX0_cast.1 18 = some (0, 1) := rfl
theorem lX0_cast_68 : GX0_cast.1 68 = some (6, 2) := rfl
theorem lX0_cast_71 : GX0_cast.1 71 = some (6, 3) := rfl
noncomputable def MX0_hold : List (Nat × am_M) := [(29, (some 6, 1, fX6_gather)), (33, (none, 2, fJ7_fill_53178)), (42, (some 0, 3, fX0_isAlike)), (46, (some 0, 2, fX0_cast))]
noncomputable def GX0_hold : am_G := (am_al FX0, am_al KX0, am_al SX0, am_al MX0_hold)
noncomputable def fX0_hold : List Value → am_H → am_R := am_fn 3 GX0_hold cX0_hold 6
theorem kX0_hold (l : Launch) (D : va_G) (ad : Nat → Nat) (cA : Nat → ClassId) (A : Nat → Prop) (hlay : am_lays) : am_Met l D ad cA A yX0_hold cX0_hold 6 none { frames := 3, cells := 0, slots := 0, locals := 78 } fX0_hold := by
  have hm : ∀ e ∈ MX0_hold, am_cc l D ad cA A yX0_hold.cls { frames := 3, cells := 0, slots := 0, locals := 78 } e.1 e.2 := List.forall_mem_cons.mpr ⟨Or.inl ⟨yX6_gather, cX6_gather, 5, none, { frames := 2, cells := 0, slots := 0, locals := 54 }, fX6_gather, 1, 6, TX6, 8, rfl, kX6_gather l D ad cA A hlay, ⟨wd_494, wd_60, wd_491, by decide +kernel⟩, wd_492, wd_493, rfl, by decide, rfl, rfl, by decide, by decide⟩, List.forall_mem_cons.mpr ⟨Or.inr (Or.inl ⟨yJ7_fill_53178, cJ7_fill_53178, 4, none, { frames := 0, cells := 0, slots := 0, locals := 0 }, fJ7_fill_53178, 2, rfl, kJ7_fill_53178 l D ad cA A hlay, ⟨wd_502, wd_66, wd_500, by decide +kernel⟩, wd_501, rfl, rfl, by decide, by decide⟩), List.forall_mem_cons.mpr ⟨Or.inl ⟨yX0_isAlike, cX0_isAlike, 4, (some .boolean), { frames := 1, cells := 0, slots := 0, locals := 20 }, fX0_isAlike, 3, 0, TX0, 4, rfl, kX0_isAlike l D ad cA A hlay, ⟨wd_506, wd_59, wd_503, by decide +kernel⟩, wd_505, wd_6, rfl, by decide, rfl, rfl, by decide, by decide⟩, List.forall_mem_cons.mpr ⟨Or.inl ⟨yX0_cast, cX0_cast, 3, none, { frames := 0, cells := 0, slots := 0, locals := 0 }, fX0_cast, 2, 0, TX0, 4, rfl, kX0_cast l D ad cA A hlay, ⟨wd_513, wd_59, wd_510, by decide +kernel⟩, wd_512, wd_7, rfl, by decide, rfl, rfl, by decide, by decide⟩, fun _ h => absurd h List.not_mem_nil⟩⟩⟩⟩
  exact am_meth (G := GX0_hold) (rk := 3) (plainFor_of_name (by decide)) hlay (fun i z h => okF_X0 _ (am_al_in h)) (fun i z h => okK_X0 _ (am_al_in h)) (fun i z h => okS_X0 _ (am_al_in h)) (Or.inr (Or.inr (Or.inr ⟨rfl, rfl⟩))) (fun i z h => hm _ (am_al_in h))
theorem lX0_hold_12 : GX0_hold.1 12 = some (0, 0) := rfl
theorem lX0_hold_29 : GX0_hold.2.2.2 29 = some (some 6, 1, fX6_gather) := rfl
theorem lX0_hold_18 : GX0_hold.1 18 = some (0, 1) := rfl
theorem lX0_hold_21 : GX0_hold.1 21 = some (0, 2) := rfl
theorem lX0_hold_33 : GX0_hold.2.2.2 33 = some (none, 2, fJ7_fill_53178) := rfl
theorem lX0_hold_25 : GX0_hold.1 25 = some (0, 3) := rfl
theorem lX0_hold_39 : GX0_hold.1 39 = some (6, 7) := rfl
theorem lX0_hold_42 : GX0_hold.2.2.2 42 = some (some 0, 3, fX0_isAlike) := rfl
theorem lX0_hold_46 : GX0_hold.2.2.2 46 = some (some 0, 2, fX0_cast) := rfl
noncomputable def MX0_of : List (Nat × am_M) := []
noncomputable def GX0_of : am_G := (am_al FX0, am_al KX0, am_al SX0, am_al MX0_of)
noncomputable def fX0_of : List Value → am_H → am_R := am_fn 0 GX0_of cX0_of 3
theorem kX0_of (l : Launch) (D : va_G) (ad : Nat → Nat) (cA : Nat → ClassId) (A : Nat → Prop) (hlay : am_lays) : am_Met l D ad cA A yX0_of cX0_of 3 (some .int) { frames := 0, cells := 0, slots := 0, locals := 0 } fX0_of := by
  have hm : ∀ e ∈ MX0_of, am_cc l D ad cA A yX0_of.cls { frames := 0, cells := 0, slots := 0, locals := 0 } e.1 e.2 := fun _ h => absurd h List.not_mem_nil
  exact am_meth (G := GX0_of) (rk := 0) (plainFor_of_name (by decide)) hlay (fun i z h => okF_X0 _ (am_al_in h)) (fun i z h => okK_X0 _ (am_al_in h)) (fun i z h => okS_X0 _ (am_al_in h)) (Or.inl ⟨rfl, rfl⟩) (fun i z h => hm _ (am_al_in h))
theorem lX0_of_21 : GX0_of.1 21 = some (0, 2) := rfl
noncomputable def MX1_has : List (Nat × am_M) := []
noncomputable def GX1_has : am_G := (am_al FX1, am_al KX1, am_al SX1, am_al MX1_has)
noncomputable def fX1_has : List Value → am_H → am_R := am_fn 1 GX1_has cX1_has 2
theorem kX1_has (l : Launch) (D : va_G) (ad : Nat → Nat) (cA : Nat → ClassId) (A : Nat → Prop) (hlay : am_lays) : am_Met l D ad cA A yX1_has cX1_has 2 (some .boolean) { frames := 0, cells := 0, slots := 0, locals := 0 } fX1_has := by
  have hm : ∀ e ∈ MX1_has, am_cc l D ad cA A yX1_has.cls { frames := 0, cells := 0, slots := 0, locals := 0 } e.1 e.2 := fun _ h => absurd h List.not_mem_nil
  exact am_meth (G := GX1_has) (rk := 1) (plainFor_of_name (by decide)) hlay (fun i z h => okF_X1 _ (am_al_in h)) (fun i z h => okK_X1 _ (am_al_in h)) (fun i z h => okS_X1 _ (am_al_in h)) (Or.inr (Or.inl ⟨rfl, rfl⟩)) (fun i z h => hm _ (am_al_in h))
theorem lX1_has_21 : GX1_has.1 21 = some (1, 3) := rfl
noncomputable def MX1_isTaken : List (Nat × am_M) := []
noncomputable def GX1_isTaken : am_G := (am_al FX1, am_al KX1, am_al SX1, am_al MX1_isTaken)
noncomputable def fX1_isTaken : List Value → am_H → am_R := am_fn 1 GX1_isTaken cX1_isTaken 4
theorem kX1_isTaken (l : Launch) (D : va_G) (ad : Nat → Nat) (cA : Nat → ClassId) (A : Nat → Prop) (hlay : am_lays) : am_Met l D ad cA A yX1_isTaken cX1_isTaken 4 (some .boolean) { frames := 0, cells := 0, slots := 0, locals := 0 } fX1_isTaken := by
  have hm : ∀ e ∈ MX1_isTaken, am_cc l D ad cA A yX1_isTaken.cls { frames := 0, cells := 0, slots := 0, locals := 0 } e.1 e.2 := fun _ h => absurd h List.not_mem_nil
  exact am_meth (G := GX1_isTaken) (rk := 1) (plainFor_of_name (by decide)) hlay (fun i z h => okF_X1 _ (am_al_in h)) (fun i z h => okK_X1 _ (am_al_in h)) (fun i z h => okS_X1 _ (am_al_in h)) (Or.inr (Or.inl ⟨rfl, rfl⟩)) (fun i z h => hm _ (am_al_in h))
theorem lX1_isTaken_21 : GX1_isTaken.1 21 = some (1, 3) := rfl
theorem lX1_isTaken_9 : GX1_isTaken.1 9 = some (1, 0) := rfl
theorem lX1_isTaken_15 : GX1_isTaken.1 15 = some (1, 1) := rfl
noncomputable def MX1_add : List (Nat × am_M) := [(25, (some 1, 2, fX1_isTaken))]
noncomputable def GX1_add : am_G := (am_al FX1, am_al KX1, am_al SX1, am_al MX1_add)
noncomputable def fX1_add : List Value → am_H → am_R := am_fn 0 GX1_add cX1_add 4
theorem kX1_add (l : Launch) (D : va_G) (ad : Nat → Nat) (cA : Nat → ClassId) (A : Nat → Prop) (hlay : am_lays) : am_Met l D ad cA A yX1_add cX1_add 4 (some .int) { frames := 1, cells := 0, slots := 0, locals := 23 } fX1_add := by
  have hm : ∀ e ∈ MX1_add, am_cc l D ad cA A yX1_add.cls { frames := 1, cells := 0, slots := 0, locals := 23 } e.1 e.2 := List.forall_mem_cons.mpr ⟨Or.inl ⟨yX1_isTaken, cX1_isTaken, 4, (some .boolean), { frames := 0, cells := 0, slots := 0, locals := 0 }, fX1_isTaken, 2, 1, TX1, 4, rfl, kX1_isTaken l D ad cA A hlay, ⟨wd_376, wd_56, wd_373, by decide +kernel⟩, wd_375, wd_0, rfl, by decide, rfl, rfl, by decide, by decide⟩, fun _ h => absurd h List.not_mem_nil⟩
  exact am_meth (G := GX1_add) (rk := 0) (plainFor_of_name (by decide)) hlay (fun i z h => okF_X1 _ (am_al_in h)) (fun i z h => okK_X1 _ (am_al_in h)) (fun i z h => okS_X1 _ (am_al_in h)) (Or.inl ⟨rfl, rfl⟩) (fun i z h => hm _ (am_al_in h))
theorem lX1_add_25 : GX1_add.2.2.2 25 = some (some 1, 2, fX1_isTaken) := rfl
theorem lX1_add_21 : GX1_add.1 21 = some (1, 3) := rfl
theorem lX1_add_9 : GX1_add.1 9 = some (1, 0) := rfl
theorem lX1_add_15 : GX1_add.1 15 = some (1, 1) := rfl
theorem lX1_add_18 : GX1_add.1 18 = some (1, 2) := rfl
noncomputable def MX1_dropLast : List (Nat × am_M) := []
noncomputable def GX1_dropLast : am_G := (am_al FX1, am_al KX1, am_al SX1, am_al MX1_dropLast)
noncomputable def fX1_dropLast : List Value → am_H → am_R := am_fn 0 GX1_dropLast cX1_dropLast 1
theorem kX1_dropLast (l : Launch) (D : va_G) (ad : Nat → Nat) (cA : Nat → ClassId) (A : Nat → Prop) (hlay : am_lays) : am_Met l D ad cA A yX1_dropLast cX1_dropLast 1 (some .int) { frames := 0, cells := 0, slots := 0, locals := 0 } fX1_dropLast := by
  have hm : ∀ e ∈ MX1_dropLast, am_cc l D ad cA A yX1_dropLast.cls { frames := 0, cells := 0, slots := 0, locals := 0 } e.1 e.2 := fun _ h => absurd h List.not_mem_nil
  exact am_meth (G := GX1_dropLast) (rk := 0) (plainFor_of_name (by decide)) hlay (fun i z h => okF_X1 _ (am_al_in h)) (fun i z h => okK_X1 _ (am_al_in h)) (fun i z h => okS_X1 _ (am_al_in h)) (Or.inl ⟨rfl, rfl⟩) (fun i z h => hm _ (am_al_in h))
theorem lX1_dropLast_21 : GX1_dropLast.1 21 = some (1, 3) := rfl
noncomputable def MX1_read : List (Nat × am_M) := []
noncomputable def GX1_read : am_G := (am_al FX1, am_al KX1, am_al SX1, am_al MX1_read)
noncomputable def fX1_read : List Value → am_H → am_R := am_fn 0 GX1_read cX1_read 3
theorem kX1_read (l : Launch) (D : va_G) (ad : Nat → Nat) (cA : Nat → ClassId) (A : Nat → Prop) (hlay : am_lays) : am_Met l D ad cA A yX1_read cX1_read 3 (some .int) { frames := 0, cells := 0, slots := 0, locals := 0 } fX1_read := by
  have hm : ∀ e ∈ MX1_read, am_cc l D ad cA A yX1_read.cls { frames := 0, cells := 0, slots := 0, locals := 0 } e.1 e.2 := fun _ h => absurd h List.not_mem_nil
  exact am_meth (G := GX1_read) (rk := 0) (plainFor_of_name (by decide)) hlay (fun i z h => okF_X1 _ (am_al_in h)) (fun i z h => okK_X1 _ (am_al_in h)) (fun i z h => okS_X1 _ (am_al_in h)) (Or.inl ⟨rfl, rfl⟩) (fun i z h => hm _ (am_al_in h))
theorem lX1_read_9 : GX1_read.1 9 = some (1, 0) := rfl
theorem lX1_read_15 : GX1_read.1 15 = some (1, 1) := rfl
theorem lX1_read_18 : GX1_read.1 18 = some (1, 2) := rfl
noncomputable def MX1_copyFrom : List (Nat × am_M) := [(29, (none, 5, am_copy))]
noncomputable def GX1_copyFrom : am_G := (am_al FX1, am_al KX1, am_al SX1, am_al MX1_copyFrom)
noncomputable def fX1_copyFrom : List Value → am_H → am_R := am_fn 3 GX1_copyFrom cX1_copyFrom 2
theorem kX1_copyFrom (l : Launch) (D : va_G) (ad : Nat → Nat) (cA : Nat → ClassId) (A : Nat → Prop) (hlay : am_lays) : am_Met l D ad cA A yX1_copyFrom cX1_copyFrom 2 none { frames := 1, cells := 0, slots := 0, locals := 72 } fX1_copyFrom := by
  have hm : ∀ e ∈ MX1_copyFrom, am_cc l D ad cA A yX1_copyFrom.cls { frames := 1, cells := 0, slots := 0, locals := 72 } e.1 e.2 := List.forall_mem_cons.mpr ⟨Or.inr (Or.inr ⟨rfl, wd_674, wd_676, wd_675, wd_67, by decide, by decide +kernel⟩), fun _ h => absurd h List.not_mem_nil⟩
  exact am_meth (G := GX1_copyFrom) (rk := 3) (plainFor_of_name (by decide)) hlay (fun i z h => okF_X1 _ (am_al_in h)) (fun i z h => okK_X1 _ (am_al_in h)) (fun i z h => okS_X1 _ (am_al_in h)) (Or.inr (Or.inr (Or.inr ⟨rfl, rfl⟩))) (fun i z h => hm _ (am_al_in h))
theorem lX1_copyFrom_9 : GX1_copyFrom.1 9 = some (1, 0) := rfl
theorem lX1_copyFrom_29 : GX1_copyFrom.2.2.2 29 = some (none, 5, am_copy) := rfl
theorem lX1_copyFrom_15 : GX1_copyFrom.1 15 = some (1, 1) := rfl
theorem lX1_copyFrom_18 : GX1_copyFrom.1 18 = some (1, 2) := rfl
theorem lX1_copyFrom_21 : GX1_copyFrom.1 21 = some (1, 3) := rfl
noncomputable def MX2_start : List (Nat × am_M) := []
noncomputable def GX2_start : am_G := (am_al FX2, am_al KX2, am_al SX2, am_al MX2_start)
noncomputable def fX2_start : List Value → am_H → am_R := am_fn 3 GX2_start cX2_start 1
theorem kX2_start (l : Launch) (D : va_G) (ad : Nat → Nat) (cA : Nat → ClassId) (A : Nat → Prop) (hlay : am_lays) : am_Met l D ad cA A yX2_start cX2_start 1 none { frames := 0, cells := 0, slots := 0, locals := 0 } fX2_start := by
  have hm : ∀ e ∈ MX2_start, am_cc l D ad cA A yX2_start.cls { frames := 0, cells := 0, slots := 0, locals := 0 } e.1 e.2 := fun _ h => absurd h List.not_mem_nil
  exact am_meth (G := GX2_start) (rk := 3) (plainFor_of_name (by decide)) hlay (fun i z h => okF_X2 _ (am_al_in h)) (fun i z h => okK_X2 _ (am_al_in h)) (fun i z h => okS_X2 _ (am_al_in h)) (Or.inr (Or.inr (Or.inr ⟨rfl, rfl⟩))) (fun i z h => hm _ (am_al_in h))
theorem lX2_start_24 : GX2_start.1 24 = some (2, 4) := rfl
theorem lX2_start_28 : GX2_start.1 28 = some (2, 5) := rfl
theorem lX2_start_32 : GX2_start.1 32 = some (2, 6) := rfl
theorem lX2_start_35 : GX2_start.1 35 = some (2, 7) := rfl
theorem lX2_start_38 : GX2_start.1 38 = some (2, 8) := rfl
noncomputable def MX2_take : List (Nat × am_M) := []
noncomputable def GX2_take : am_G := (am_al FX2, am_al KX2, am_al SX2, am_al MX2_take)
noncomputable def fX2_take : List Value → am_H → am_R := am_fn 3 GX2_take cX2_take 5
theorem kX2_take (l : Launch) (D : va_G) (ad : Nat → Nat) (cA : Nat → ClassId) (A : Nat → Prop) (hlay : am_lays) : am_Met l D ad cA A yX2_take cX2_take 5 none { frames := 0, cells := 0, slots := 0, locals := 0 } fX2_take := by
  have hm : ∀ e ∈ MX2_take, am_cc l D ad cA A yX2_take.cls { frames := 0, cells := 0, slots := 0, locals := 0 } e.1 e.2 := fun _ h => absurd h List.not_mem_nil
  exact am_meth (G := GX2_take) (rk := 3) (plainFor_of_name (by decide)) hlay (fun i z h => okF_X2 _ (am_al_in h)) (fun i z h => okK_X2 _ (am_al_in h)) (fun i z h => okS_X2 _ (am_al_in h)) (Or.inr (Or.inr (Or.inr ⟨rfl, rfl⟩))) (fun i z h => hm _ (am_al_in h))
theorem lX2_take_24 : GX2_take.1 24 = some (2, 4) := rfl
theorem lX2_take_9 : GX2_take.1 9 = some (2, 0) := rfl
theorem lX2_take_15 : GX2_take.1 15 = some (2, 1) := rfl
theorem lX2_take_18 : GX2_take.1 18 = some (2, 2) := rfl
theorem lX2_take_21 : GX2_take.1 21 = some (2, 3) := rfl
theorem lX2_take_28 : GX2_take.1 28 = some (2, 5) := rfl
theorem lX2_take_32 : GX2_take.1 32 = some (2, 6) := rfl
theorem lX2_take_35 : GX2_take.1 35 = some (2, 7) := rfl
theorem lX2_take_38 : GX2_take.1 38 = some (2, 8) := rfl
noncomputable def MX2_solve : List (Nat × am_M) := []
noncomputable def GX2_solve : am_G := (am_al FX2, am_al KX2, am_al SX2, am_al MX2_solve)
noncomputable def fX2_solve : List Value → am_H → am_R := am_fn 1 GX2_solve cX2_solve 10
theorem kX2_solve (l : Launch) (D : va_G) (ad : Nat → Nat) (cA : Nat → ClassId) (A : Nat → Prop) (hlay : am_lays) : am_Met l D ad cA A yX2_solve cX2_solve 10 (some .boolean) { frames := 0, cells := 0, slots := 0, locals := 0 } fX2_solve := by
  have hm : ∀ e ∈ MX2_solve, am_cc l D ad cA A yX2_solve.cls { frames := 0, cells := 0, slots := 0, locals := 0 } e.1 e.2 := fun _ h => absurd h List.not_mem_nil
  exact am_meth (G := GX2_solve) (rk := 1) (plainFor_of_name (by decide)) hlay (fun i z h => okF_X2 _ (am_al_in h)) (fun i z h => okK_X2 _ (am_al_in h)) (fun i z h => okS_X2 _ (am_al_in h)) (Or.inr (Or.inl ⟨rfl, rfl⟩)) (fun i z h => hm _ (am_al_in h))
theorem lX2_solve_41 : GX2_solve.1 41 = some (2, 9) := rfl
theorem lX2_solve_44 : GX2_solve.1 44 = some (2, 10) := rfl
theorem lX2_solve_47 : GX2_solve.1 47 = some (2, 11) := rfl
theorem lX2_solve_24 : GX2_solve.1 24 = some (2, 4) := rfl
theorem lX2_solve_9 : GX2_solve.1 9 = some (2, 0) := rfl
theorem lX2_solve_28 : GX2_solve.1 28 = some (2, 5) := rfl
theorem lX2_solve_15 : GX2_solve.1 15 = some (2, 1) := rfl
theorem lX2_solve_32 : GX2_solve.1 32 = some (2, 6) := rfl
theorem lX2_solve_18 : GX2_solve.1 18 = some (2, 2) := rfl
theorem lX2_solve_35 : GX2_solve.1 35 = some (2, 7) := rfl
theorem lX2_solve_21 : GX2_solve.1 21 = some (2, 3) := rfl
theorem lX2_solve_38 : GX2_solve.1 38 = some (2, 8) := rfl
noncomputable def MJ9_floorDiv_f86c9 : List (Nat × am_M) := []
noncomputable def GJ9_floorDiv_f86c9 : am_G := (am_al FJ9, am_al KJ9, am_al SJ9, am_al MJ9_floorDiv_f86c9)
noncomputable def fJ9_floorDiv_f86c9 : List Value → am_H → am_R := am_fn 2 GJ9_floorDiv_f86c9 cJ9_floorDiv_f86c9 6
theorem kJ9_floorDiv_f86c9 (l : Launch) (D : va_G) (ad : Nat → Nat) (cA : Nat → ClassId) (A : Nat → Prop) (hlay : am_lays) : am_Met l D ad cA A yJ9_floorDiv_f86c9 cJ9_floorDiv_f86c9 6 (some .long) { frames := 0, cells := 0, slots := 0, locals := 0 } fJ9_floorDiv_f86c9 := by
  have hm : ∀ e ∈ MJ9_floorDiv_f86c9, am_cc l D ad cA A yJ9_floorDiv_f86c9.cls { frames := 0, cells := 0, slots := 0, locals := 0 } e.1 e.2 := fun _ h => absurd h List.not_mem_nil
  exact am_meth (G := GJ9_floorDiv_f86c9) (rk := 2) (by decide +kernel) hlay (fun i z h => okF_J9 _ (am_al_in h)) (fun i z h => okK_J9 _ (am_al_in h)) (fun i z h => okS_J9 _ (am_al_in h)) (Or.inr (Or.inr (Or.inl ⟨rfl, rfl⟩))) (fun i z h => hm _ (am_al_in h))
noncomputable def MX2_placeOf : List (Nat × am_M) := [(52, (none, 2, fJ9_floorDiv_f86c9))]
noncomputable def GX2_placeOf : am_G := (am_al FX2, am_al KX2, am_al SX2, am_al MX2_placeOf)
noncomputable def fX2_placeOf : List Value → am_H → am_R := am_fn 2 GX2_placeOf cX2_placeOf 12
theorem kX2_placeOf (l : Launch) (D : va_G) (ad : Nat → Nat) (cA : Nat → ClassId) (A : Nat → Prop) (hlay : am_lays) : am_Met l D ad cA A yX2_placeOf cX2_placeOf 12 (some .long) { frames := 1, cells := 0, slots := 0, locals := 25 } fX2_placeOf := by
  have hm : ∀ e ∈ MX2_placeOf, am_cc l D ad cA A yX2_placeOf.cls { frames := 1, cells := 0, slots := 0, locals := 25 } e.1 e.2 := List.forall_mem_cons.mpr ⟨Or.inr (Or.inl ⟨yJ9_floorDiv_f86c9, cJ9_floorDiv_f86c9, 6, (some .long), { frames := 0, cells := 0, slots := 0, locals := 0 }, fJ9_floorDiv_f86c9, 2, rfl, kJ9_floorDiv_f86c9 l D ad cA A hlay, ⟨wd_579, wd_65, wd_577, by decide +kernel⟩, wd_578, rfl, rfl, by decide, by decide⟩), fun _ h => absurd h List.not_mem_nil⟩
  exact am_meth (G := GX2_placeOf) (rk := 2) (plainFor_of_name (by decide)) hlay (fun i z h => okF_X2 _ (am_al_in h)) (fun i z h => okK_X2 _ (am_al_in h)) (fun i z h => okS_X2 _ (am_al_in h)) (Or.inr (Or.inr (Or.inl ⟨rfl, rfl⟩))) (fun i z h => hm _ (am_al_in h))
theorem lX2_placeOf_24 : GX2_placeOf.1 24 = some (2, 4) := rfl
theorem lX2_placeOf_47 : GX2_placeOf.1 47 = some (2, 11) := rfl
theorem lX2_placeOf_50 : GX2_placeOf.2.1 50 = some (.long (-9223372036854775808)) := rfl
theorem lX2_placeOf_28 : GX2_placeOf.1 28 = some (2, 5) := rfl
theorem lX2_placeOf_32 : GX2_placeOf.1 32 = some (2, 6) := rfl
theorem lX2_placeOf_35 : GX2_placeOf.1 35 = some (2, 7) := rfl
theorem lX2_placeOf_41 : GX2_placeOf.1 41 = some (2, 9) := rfl
theorem lX2_placeOf_44 : GX2_placeOf.1 44 = some (2, 10) := rfl
theorem lX2_placeOf_38 : GX2_placeOf.1 38 = some (2, 8) := rfl
theorem lX2_placeOf_52 : GX2_placeOf.2.2.2 52 = some (none, 2, fJ9_floorDiv_f86c9) := rfl
noncomputable def MX3_start : List (Nat × am_M) := [(48, (some 2, 3, fX2_placeOf))]
noncomputable def GX3_start : am_G := (am_al FX3, am_al KX3, am_al SX3, am_al MX3_start)
noncomputable def fX3_start : List Value → am_H → am_R := am_fn 3 GX3_start cX3_start 6
theorem kX3_start (l : Launch) (D : va_G) (ad : Nat → Nat) (cA : Nat → ClassId) (A : Nat → Prop) (hlay : am_lays) : am_Met l D ad cA A yX3_start cX3_start 6 none { frames := 2, cells := 0, slots := 0, locals := 56 } fX3_start := by
  have hm : ∀ e ∈ MX3_start, am_cc l D ad cA A yX3_start.cls { frames := 2, cells := 0, slots := 0, locals := 56 } e.1 e.2 := List.forall_mem_cons.mpr ⟨Or.inl ⟨yX2_placeOf, cX2_placeOf, 12, (some .long), { frames := 1, cells := 0, slots := 0, locals := 25 }, fX2_placeOf, 3, 2, TX2, 12, rfl, kX2_placeOf l D ad cA A hlay, ⟨wd_575, wd_62, wd_644, by decide +kernel⟩, wd_573, wd_574, rfl, by decide, rfl, rfl, by decide, by decide⟩, fun _ h => absurd h List.not_mem_nil⟩
  exact am_meth (G := GX3_start) (rk := 3) (plainFor_of_name (by decide)) hlay (fun i z h => okF_X3 _ (am_al_in h)) (fun i z h => okK_X3 _ (am_al_in h)) (fun i z h => okS_X3 _ (am_al_in h)) (Or.inr (Or.inr (Or.inr ⟨rfl, rfl⟩))) (fun i z h => hm _ (am_al_in h))
theorem lX3_start_21 : GX3_start.1 21 = some (3, 3) := rfl
theorem lX3_start_39 : GX3_start.1 39 = some (1, 3) := rfl
theorem lX3_start_25 : GX3_start.1 25 = some (3, 4) := rfl
theorem lX3_start_42 : GX3_start.1 42 = some (1, 0) := rfl
theorem lX3_start_45 : GX3_start.1 45 = some (1, 1) := rfl
theorem lX3_start_48 : GX3_start.2.2.2 48 = some (some 2, 3, fX2_placeOf) := rfl
theorem lX3_start_29 : GX3_start.1 29 = some (3, 5) := rfl
theorem lX3_start_32 : GX3_start.1 32 = some (3, 6) := rfl
theorem lX3_start_54 : GX3_start.1 54 = some (4, 1) := rfl
theorem lX3_start_36 : GX3_start.1 36 = some (3, 7) := rfl
noncomputable def MX3_squareTo : List (Nat × am_M) := []
noncomputable def GX3_squareTo : am_G := (am_al FX3, am_al KX3, am_al SX3, am_al MX3_squareTo)
noncomputable def fX3_squareTo : List Value → am_H → am_R := am_fn 2 GX3_squareTo cX3_squareTo 8
theorem kX3_squareTo (l : Launch) (D : va_G) (ad : Nat → Nat) (cA : Nat → ClassId) (A : Nat → Prop) (hlay : am_lays) : am_Met l D ad cA A yX3_squareTo cX3_squareTo 8 (some .long) { frames := 0, cells := 0, slots := 0, locals := 0 } fX3_squareTo := by
  have hm : ∀ e ∈ MX3_squareTo, am_cc l D ad cA A yX3_squareTo.cls { frames := 0, cells := 0, slots := 0, locals := 0 } e.1 e.2 := fun _ h => absurd h List.not_mem_nil
  exact am_meth (G := GX3_squareTo) (rk := 2) (plainFor_of_name (by decide)) hlay (fun i z h => okF_X3 _ (am_al_in h)) (fun i z h => okK_X3 _ (am_al_in h)) (fun i z h => okS_X3 _ (am_al_in h)) (Or.inr (Or.inr (Or.inl ⟨rfl, rfl⟩))) (fun i z h => hm _ (am_al_in h))
theorem lX3_squareTo_25 : GX3_squareTo.1 25 = some (3, 4) := rfl
theorem lX3_squareTo_42 : GX3_squareTo.1 42 = some (1, 0) := rfl
theorem lX3_squareTo_29 : GX3_squareTo.1 29 = some (3, 5) := rfl
theorem lX3_squareTo_45 : GX3_squareTo.1 45 = some (1, 1) := rfl
noncomputable def MX3_append : List (Nat × am_M) := []
noncomputable def GX3_append : am_G := (am_al FX3, am_al KX3, am_al SX3, am_al MX3_append)
noncomputable def fX3_append : List Value → am_H → am_R := am_fn 3 GX3_append cX3_append 4
theorem kX3_append (l : Launch) (D : va_G) (ad : Nat → Nat) (cA : Nat → ClassId) (A : Nat → Prop) (hlay : am_lays) : am_Met l D ad cA A yX3_append cX3_append 4 none { frames := 0, cells := 0, slots := 0, locals := 0 } fX3_append := by
  have hm : ∀ e ∈ MX3_append, am_cc l D ad cA A yX3_append.cls { frames := 0, cells := 0, slots := 0, locals := 0 } e.1 e.2 := fun _ h => absurd h List.not_mem_nil
  exact am_meth (G := GX3_append) (rk := 3) (plainFor_of_name (by decide)) hlay (fun i z h => okF_X3 _ (am_al_in h)) (fun i z h => okK_X3 _ (am_al_in h)) (fun i z h => okS_X3 _ (am_al_in h)) (Or.inr (Or.inr (Or.inr ⟨rfl, rfl⟩))) (fun i z h => hm _ (am_al_in h))
theorem lX3_append_9 : GX3_append.1 9 = some (3, 0) := rfl
theorem lX3_append_21 : GX3_append.1 21 = some (3, 3) := rfl
theorem lX3_append_15 : GX3_append.1 15 = some (3, 1) := rfl
theorem lX3_append_18 : GX3_append.1 18 = some (3, 2) := rfl
theorem lX3_append_32 : GX3_append.1 32 = some (3, 6) := rfl
theorem lX3_append_36 : GX3_append.1 36 = some (3, 7) := rfl
noncomputable def MX3_addNearest : List (Nat × am_M) := [(59, (some 3, 3, fX3_squareTo)), (63, (some 3, 3, fX3_append))]
noncomputable def GX3_addNearest : am_G := (am_al FX3, am_al KX3, am_al SX3, am_al MX3_addNearest)
noncomputable def fX3_addNearest : List Value → am_H → am_R := am_fn 1 GX3_addNearest cX3_addNearest 12
theorem kX3_addNearest (l : Launch) (D : va_G) (ad : Nat → Nat) (cA : Nat → ClassId) (A : Nat → Prop) (hlay : am_lays) : am_Met l D ad cA A yX3_addNearest cX3_addNearest 12 (some .boolean) { frames := 1, cells := 0, slots := 0, locals := 27 } fX3_addNearest := by
  have hm : ∀ e ∈ MX3_addNearest, am_cc l D ad cA A yX3_addNearest.cls { frames := 1, cells := 0, slots := 0, locals := 27 } e.1 e.2 := List.forall_mem_cons.mpr ⟨Or.inl ⟨yX3_squareTo, cX3_squareTo, 8, (some .long), { frames := 0, cells := 0, slots := 0, locals := 0 }, fX3_squareTo, 3, 3, TX3, 8, rfl, kX3_squareTo l D ad cA A hlay, ⟨wd_652, wd_63, wd_649, by decide +kernel⟩, wd_651, wd_20, rfl, by decide, rfl, rfl, by decide, by decide⟩, List.forall_mem_cons.mpr ⟨Or.inl ⟨yX3_append, cX3_append, 4, none, { frames := 0, cells := 0, slots := 0, locals := 0 }, fX3_append, 3, 3, TX3, 8, rfl, kX3_append l D ad cA A hlay, ⟨wd_656, wd_63, wd_653, by decide +kernel⟩, wd_655, wd_21, rfl, by decide, rfl, rfl, by decide, by decide⟩, fun _ h => absurd h List.not_mem_nil⟩⟩
  exact am_meth (G := GX3_addNearest) (rk := 1) (plainFor_of_name (by decide)) hlay (fun i z h => okF_X3 _ (am_al_in h)) (fun i z h => okK_X3 _ (am_al_in h)) (fun i z h => okS_X3 _ (am_al_in h)) (Or.inr (Or.inl ⟨rfl, rfl⟩)) (fun i z h => hm _ (am_al_in h))
theorem lX3_addNearest_21 : GX3_addNearest.1 21 = some (3, 3) := rfl
theorem lX3_addNearest_39 : GX3_addNearest.1 39 = some (1, 3) := rfl
theorem lX3_addNearest_32 : GX3_addNearest.1 32 = some (3, 6) := rfl
theorem lX3_addNearest_36 : GX3_addNearest.1 36 = some (3, 7) := rfl
theorem lX3_addNearest_59 : GX3_addNearest.2.2.2 59 = some (some 3, 3, fX3_squareTo) := rfl
theorem lX3_addNearest_63 : GX3_addNearest.2.2.2 63 = some (some 3, 3, fX3_append) := rfl
noncomputable def MX4_holds : List (Nat × am_M) := []
noncomputable def GX4_holds : am_G := (am_al FX4, am_al KX4, am_al SX4, am_al MX4_holds)
noncomputable def fX4_holds : List Value → am_H → am_R := am_fn 1 GX4_holds cX4_holds 2
theorem kX4_holds (l : Launch) (D : va_G) (ad : Nat → Nat) (cA : Nat → ClassId) (A : Nat → Prop) (hlay : am_lays) : am_Met l D ad cA A yX4_holds cX4_holds 2 (some .boolean) { frames := 0, cells := 0, slots := 0, locals := 0 } fX4_holds := by
  have hm : ∀ e ∈ MX4_holds, am_cc l D ad cA A yX4_holds.cls { frames := 0, cells := 0, slots := 0, locals := 0 } e.1 e.2 := fun _ h => absurd h List.not_mem_nil
  exact am_meth (G := GX4_holds) (rk := 1) (plainFor_of_name (by decide)) hlay (fun i z h => okF_X4 _ (am_al_in h)) (fun i z h => okK_X4 _ (am_al_in h)) (fun i z h => okS_X4 _ (am_al_in h)) (Or.inr (Or.inl ⟨rfl, rfl⟩)) (fun i z h => hm _ (am_al_in h))
theorem lX4_holds_9 : GX4_holds.1 9 = some (4, 0) := rfl
noncomputable def MX4_addBest : List (Nat × am_M) := [(27, (some 4, 1, fX4_holds)), (31, (some 0, 2, fX0_of))]
noncomputable def GX4_addBest : am_G := (am_al FX4, am_al KX4, am_al SX4, am_al MX4_addBest)
noncomputable def fX4_addBest : List Value → am_H → am_R := am_fn 1 GX4_addBest cX4_addBest 9
theorem kX4_addBest (l : Launch) (D : va_G) (ad : Nat → Nat) (cA : Nat → ClassId) (A : Nat → Prop) (hlay : am_lays) : am_Met l D ad cA A yX4_addBest cX4_addBest 9 (some .boolean) { frames := 1, cells := 0, slots := 0, locals := 22 } fX4_addBest := by
  have hm : ∀ e ∈ MX4_addBest, am_cc l D ad cA A yX4_addBest.cls { frames := 1, cells := 0, slots := 0, locals := 22 } e.1 e.2 := List.forall_mem_cons.mpr ⟨Or.inl ⟨yX4_holds, cX4_holds, 2, (some .boolean), { frames := 0, cells := 0, slots := 0, locals := 0 }, fX4_holds, 1, 4, TX4, 3, rfl, kX4_holds l D ad cA A hlay, ⟨wd_545, wd_61, wd_542, by decide +kernel⟩, wd_543, wd_544, rfl, by decide, rfl, rfl, by decide, by decide⟩, List.forall_mem_cons.mpr ⟨Or.inl ⟨yX0_of, cX0_of, 3, (some .int), { frames := 0, cells := 0, slots := 0, locals := 0 }, fX0_of, 2, 0, TX0, 4, rfl, kX0_of l D ad cA A hlay, ⟨wd_521, wd_59, wd_546, by decide +kernel⟩, wd_519, wd_520, rfl, by decide, rfl, rfl, by decide, by decide⟩, fun _ h => absurd h List.not_mem_nil⟩⟩
  exact am_meth (G := GX4_addBest) (rk := 1) (plainFor_of_name (by decide)) hlay (fun i z h => okF_X4 _ (am_al_in h)) (fun i z h => okK_X4 _ (am_al_in h)) (fun i z h => okS_X4 _ (am_al_in h)) (Or.inr (Or.inl ⟨rfl, rfl⟩)) (fun i z h => hm _ (am_al_in h))
theorem lX4_addBest_27 : GX4_addBest.2.2.2 27 = some (some 4, 1, fX4_holds) := rfl
theorem lX4_addBest_15 : GX4_addBest.1 15 = some (4, 1) := rfl
theorem lX4_addBest_31 : GX4_addBest.2.2.2 31 = some (some 0, 2, fX0_of) := rfl
theorem lX4_addBest_9 : GX4_addBest.1 9 = some (4, 0) := rfl
theorem lX4_addBest_19 : GX4_addBest.1 19 = some (4, 2) := rfl
noncomputable def MX4_fill : List (Nat × am_M) := [(23, (some 4, 3, fX4_addBest))]
noncomputable def GX4_fill : am_G := (am_al FX4, am_al KX4, am_al SX4, am_al MX4_fill)
noncomputable def fX4_fill : List Value → am_H → am_R := am_fn 3 GX4_fill cX4_fill 5
theorem kX4_fill (l : Launch) (D : va_G) (ad : Nat → Nat) (cA : Nat → ClassId) (A : Nat → Prop) (hlay : am_lays) : am_Met l D ad cA A yX4_fill cX4_fill 5 none { frames := 2, cells := 0, slots := 0, locals := 50 } fX4_fill := by
  have hm : ∀ e ∈ MX4_fill, am_cc l D ad cA A yX4_fill.cls { frames := 2, cells := 0, slots := 0, locals := 50 } e.1 e.2 := List.forall_mem_cons.mpr ⟨Or.inl ⟨yX4_addBest, cX4_addBest, 9, (some .boolean), { frames := 1, cells := 0, slots := 0, locals := 22 }, fX4_addBest, 3, 4, TX4, 3, rfl, kX4_addBest l D ad cA A hlay, ⟨wd_541, wd_61, wd_538, by decide +kernel⟩, wd_540, wd_10, rfl, by decide, rfl, rfl, by decide, by decide⟩, fun _ h => absurd h List.not_mem_nil⟩
  exact am_meth (G := GX4_fill) (rk := 3) (plainFor_of_name (by decide)) hlay (fun i z h => okF_X4 _ (am_al_in h)) (fun i z h => okK_X4 _ (am_al_in h)) (fun i z h => okS_X4 _ (am_al_in h)) (Or.inr (Or.inr (Or.inr ⟨rfl, rfl⟩))) (fun i z h => hm _ (am_al_in h))
theorem lX4_fill_9 : GX4_fill.1 9 = some (4, 0) := rfl
theorem lX4_fill_15 : GX4_fill.1 15 = some (4, 1) := rfl
theorem lX4_fill_19 : GX4_fill.1 19 = some (4, 2) := rfl
theorem lX4_fill_23 : GX4_fill.2.2.2 23 = some (some 4, 3, fX4_addBest) := rfl
noncomputable def MX4_drop : List (Nat × am_M) := [(27, (some 4, 1, fX4_holds))]
noncomputable def GX4_drop : am_G := (am_al FX4, am_al KX4, am_al SX4, am_al MX4_drop)
noncomputable def fX4_drop : List Value → am_H → am_R := am_fn 3 GX4_drop cX4_drop 2
theorem kX4_drop (l : Launch) (D : va_G) (ad : Nat → Nat) (cA : Nat → ClassId) (A : Nat → Prop) (hlay : am_lays) : am_Met l D ad cA A yX4_drop cX4_drop 2 none { frames := 1, cells := 0, slots := 0, locals := 21 } fX4_drop := by
  have hm : ∀ e ∈ MX4_drop, am_cc l D ad cA A yX4_drop.cls { frames := 1, cells := 0, slots := 0, locals := 21 } e.1 e.2 := List.forall_mem_cons.mpr ⟨Or.inl ⟨yX4_holds, cX4_holds, 2, (some .boolean), { frames := 0, cells := 0, slots := 0, locals := 0 }, fX4_holds, 1, 4, TX4, 3, rfl, kX4_holds l D ad cA A hlay, ⟨wd_545, wd_61, wd_542, by decide +kernel⟩, wd_543, wd_544, rfl, by decide, rfl, rfl, by decide, by decide⟩, fun _ h => absurd h List.not_mem_nil⟩
  exact am_meth (G := GX4_drop) (rk := 3) (plainFor_of_name (by decide)) hlay (fun i z h => okF_X4 _ (am_al_in h)) (fun i z h => okK_X4 _ (am_al_in h)) (fun i z h => okS_X4 _ (am_al_in h)) (Or.inr (Or.inr (Or.inr ⟨rfl, rfl⟩))) (fun i z h => hm _ (am_al_in h))
theorem lX4_drop_27 : GX4_drop.2.2.2 27 = some (some 4, 1, fX4_holds) := rfl
theorem lX4_drop_15 : GX4_drop.1 15 = some (4, 1) := rfl
theorem lX4_drop_9 : GX4_drop.1 9 = some (4, 0) := rfl
theorem lX4_drop_19 : GX4_drop.1 19 = some (4, 2) := rfl
noncomputable def MX7_renew : List (Nat × am_M) := [(26, (none, 2, fJ7_fill_53178))]
noncomputable def GX7_renew : am_G := (am_al FX7, am_al KX7, am_al SX7, am_al MX7_renew)
noncomputable def fX7_renew : List Value → am_H → am_R := am_fn 3 GX7_renew cX7_renew 3
theorem kX7_renew (l : Launch) (D : va_G) (ad : Nat → Nat) (cA : Nat → ClassId) (A : Nat → Prop) (hlay : am_lays) : am_Met l D ad cA A yX7_renew cX7_renew 3 none { frames := 1, cells := 0, slots := 0, locals := 23 } fX7_renew := by
  have hm : ∀ e ∈ MX7_renew, am_cc l D ad cA A yX7_renew.cls { frames := 1, cells := 0, slots := 0, locals := 23 } e.1 e.2 := List.forall_mem_cons.mpr ⟨Or.inr (Or.inl ⟨yJ7_fill_53178, cJ7_fill_53178, 4, none, { frames := 0, cells := 0, slots := 0, locals := 0 }, fJ7_fill_53178, 2, rfl, kJ7_fill_53178 l D ad cA A hlay, ⟨wd_502, wd_66, wd_689, by decide +kernel⟩, wd_501, rfl, rfl, by decide, by decide⟩), fun _ h => absurd h List.not_mem_nil⟩
  exact am_meth (G := GX7_renew) (rk := 3) (plainFor_of_name (by decide)) hlay (fun i z h => okF_X7 _ (am_al_in h)) (fun i z h => okK_X7 _ (am_al_in h)) (fun i z h => okS_X7 _ (am_al_in h)) (Or.inr (Or.inr (Or.inr ⟨rfl, rfl⟩))) (fun i z h => hm _ (am_al_in h))
theorem lX7_renew_9 : GX7_renew.1 9 = some (7, 0) := rfl
theorem lX7_renew_26 : GX7_renew.2.2.2 26 = some (none, 2, fJ7_fill_53178) := rfl
theorem lX7_renew_15 : GX7_renew.1 15 = some (7, 1) := rfl
theorem lX7_renew_19 : GX7_renew.1 19 = some (7, 2) := rfl
theorem lX7_renew_23 : GX7_renew.1 23 = some (7, 3) := rfl
noncomputable def MX7_faultAt : List (Nat × am_M) := []
noncomputable def GX7_faultAt : am_G := (am_al FX7, am_al KX7, am_al SX7, am_al MX7_faultAt)
noncomputable def fX7_faultAt : List Value → am_H → am_R := am_fn 0 GX7_faultAt cX7_faultAt 2
theorem kX7_faultAt (l : Launch) (D : va_G) (ad : Nat → Nat) (cA : Nat → ClassId) (A : Nat → Prop) (hlay : am_lays) : am_Met l D ad cA A yX7_faultAt cX7_faultAt 2 (some .int) { frames := 0, cells := 0, slots := 0, locals := 0 } fX7_faultAt := by
  have hm : ∀ e ∈ MX7_faultAt, am_cc l D ad cA A yX7_faultAt.cls { frames := 0, cells := 0, slots := 0, locals := 0 } e.1 e.2 := fun _ h => absurd h List.not_mem_nil
  exact am_meth (G := GX7_faultAt) (rk := 0) (plainFor_of_name (by decide)) hlay (fun i z h => okF_X7 _ (am_al_in h)) (fun i z h => okK_X7 _ (am_al_in h)) (fun i z h => okS_X7 _ (am_al_in h)) (Or.inl ⟨rfl, rfl⟩) (fun i z h => hm _ (am_al_in h))
theorem lX7_faultAt_15 : GX7_faultAt.1 15 = some (7, 1) := rfl
theorem lX7_faultAt_23 : GX7_faultAt.1 23 = some (7, 3) := rfl
noncomputable def MX7_takes : List (Nat × am_M) := []
noncomputable def GX7_takes : am_G := (am_al FX7, am_al KX7, am_al SX7, am_al MX7_takes)
noncomputable def fX7_takes : List Value → am_H → am_R := am_fn 1 GX7_takes cX7_takes 2
theorem kX7_takes (l : Launch) (D : va_G) (ad : Nat → Nat) (cA : Nat → ClassId) (A : Nat → Prop) (hlay : am_lays) : am_Met l D ad cA A yX7_takes cX7_takes 2 (some .boolean) { frames := 0, cells := 0, slots := 0, locals := 0 } fX7_takes := by
  have hm : ∀ e ∈ MX7_takes, am_cc l D ad cA A yX7_takes.cls { frames := 0, cells := 0, slots := 0, locals := 0 } e.1 e.2 := fun _ h => absurd h List.not_mem_nil
  exact am_meth (G := GX7_takes) (rk := 1) (plainFor_of_name (by decide)) hlay (fun i z h => okF_X7 _ (am_al_in h)) (fun i z h => okK_X7 _ (am_al_in h)) (fun i z h => okS_X7 _ (am_al_in h)) (Or.inr (Or.inl ⟨rfl, rfl⟩)) (fun i z h => hm _ (am_al_in h))
theorem lX7_takes_19 : GX7_takes.1 19 = some (7, 2) := rfl
noncomputable def MX8_isWithin : List (Nat × am_M) := []
noncomputable def GX8_isWithin : am_G := (am_al FX8, am_al KX8, am_al SX8, am_al MX8_isWithin)
noncomputable def fX8_isWithin : List Value → am_H → am_R := am_fn 1 GX8_isWithin cX8_isWithin 3
theorem kX8_isWithin (l : Launch) (D : va_G) (ad : Nat → Nat) (cA : Nat → ClassId) (A : Nat → Prop) (hlay : am_lays) : am_Met l D ad cA A yX8_isWithin cX8_isWithin 3 (some .boolean) { frames := 0, cells := 0, slots := 0, locals := 0 } fX8_isWithin := by
  have hm : ∀ e ∈ MX8_isWithin, am_cc l D ad cA A yX8_isWithin.cls { frames := 0, cells := 0, slots := 0, locals := 0 } e.1 e.2 := fun _ h => absurd h List.not_mem_nil
  exact am_meth (G := GX8_isWithin) (rk := 1) (plainFor_of_name (by decide)) hlay (fun i z h => okF_X8 _ (am_al_in h)) (fun i z h => okK_X8 _ (am_al_in h)) (fun i z h => okS_X8 _ (am_al_in h)) (Or.inr (Or.inl ⟨rfl, rfl⟩)) (fun i z h => hm _ (am_al_in h))
noncomputable def MX8_star : List (Nat × am_M) := [(76, (none, 3, fX8_isWithin)), (80, (some 1, 3, fX1_add))]
noncomputable def GX8_star : am_G := (am_al FX8, am_al KX8, am_al SX8, am_al MX8_star)
noncomputable def fX8_star : List Value → am_H → am_R := am_fn 0 GX8_star cX8_star 4
theorem kX8_star (l : Launch) (D : va_G) (ad : Nat → Nat) (cA : Nat → ClassId) (A : Nat → Prop) (hlay : am_lays) : am_Met l D ad cA A yX8_star cX8_star 4 (some .int) { frames := 2, cells := 0, slots := 0, locals := 46 } fX8_star := by
  have hm : ∀ e ∈ MX8_star, am_cc l D ad cA A yX8_star.cls { frames := 2, cells := 0, slots := 0, locals := 46 } e.1 e.2 := List.forall_mem_cons.mpr ⟨Or.inr (Or.inl ⟨yX8_isWithin, cX8_isWithin, 3, (some .boolean), { frames := 0, cells := 0, slots := 0, locals := 0 }, fX8_isWithin, 3, rfl, kX8_isWithin l D ad cA A hlay, ⟨wd_368, wd_55, wd_366, by decide +kernel⟩, wd_367, rfl, rfl, by decide, by decide⟩), List.forall_mem_cons.mpr ⟨Or.inl ⟨yX1_add, cX1_add, 4, (some .int), { frames := 1, cells := 0, slots := 0, locals := 23 }, fX1_add, 3, 1, TX1, 4, rfl, kX1_add l D ad cA A hlay, ⟨wd_372, wd_56, wd_369, by decide +kernel⟩, wd_370, wd_371, rfl, by decide, rfl, rfl, by decide, by decide⟩, fun _ h => absurd h List.not_mem_nil⟩⟩
  exact am_meth (G := GX8_star) (rk := 0) (plainFor_of_name (by decide)) hlay (fun i z h => okF_X8 _ (am_al_in h)) (fun i z h => okK_X8 _ (am_al_in h)) (fun i z h => okS_X8 _ (am_al_in h)) (Or.inl ⟨rfl, rfl⟩) (fun i z h => hm _ (am_al_in h))
theorem lX8_star_76 : GX8_star.2.2.2 76 = some (none, 3, fX8_isWithin) := rfl
theorem lX8_star_14 : GX8_star.1 14 = some (8, 0) := rfl
theorem lX8_star_80 : GX8_star.2.2.2 80 = some (some 1, 3, fX1_add) := rfl
noncomputable def MX8_unstar : List (Nat × am_M) := [(84, (some 1, 0, fX1_dropLast))]
noncomputable def GX8_unstar : am_G := (am_al FX8, am_al KX8, am_al SX8, am_al MX8_unstar)
noncomputable def fX8_unstar : List Value → am_H → am_R := am_fn 0 GX8_unstar cX8_unstar 1
theorem kX8_unstar (l : Launch) (D : va_G) (ad : Nat → Nat) (cA : Nat → ClassId) (A : Nat → Prop) (hlay : am_lays) : am_Met l D ad cA A yX8_unstar cX8_unstar 1 (some .int) { frames := 1, cells := 0, slots := 0, locals := 20 } fX8_unstar := by
  have hm : ∀ e ∈ MX8_unstar, am_cc l D ad cA A yX8_unstar.cls { frames := 1, cells := 0, slots := 0, locals := 20 } e.1 e.2 := List.forall_mem_cons.mpr ⟨Or.inl ⟨yX1_dropLast, cX1_dropLast, 1, (some .int), { frames := 0, cells := 0, slots := 0, locals := 0 }, fX1_dropLast, 0, 1, TX1, 4, rfl, kX1_dropLast l D ad cA A hlay, ⟨wd_384, wd_56, wd_381, by decide +kernel⟩, wd_382, wd_383, rfl, by decide, rfl, rfl, by decide, by decide⟩, fun _ h => absurd h List.not_mem_nil⟩
  exact am_meth (G := GX8_unstar) (rk := 0) (plainFor_of_name (by decide)) hlay (fun i z h => okF_X8 _ (am_al_in h)) (fun i z h => okK_X8 _ (am_al_in h)) (fun i z h => okS_X8 _ (am_al_in h)) (Or.inl ⟨rfl, rfl⟩) (fun i z h => hm _ (am_al_in h))
theorem lX8_unstar_14 : GX8_unstar.1 14 = some (8, 0) := rfl
theorem lX8_unstar_84 : GX8_unstar.2.2.2 84 = some (some 1, 0, fX1_dropLast) := rfl
noncomputable def MX8_isPlate : List (Nat × am_M) := []
noncomputable def GX8_isPlate : am_G := (am_al FX8, am_al KX8, am_al SX8, am_al MX8_isPlate)
noncomputable def fX8_isPlate : List Value → am_H → am_R := am_fn 1 GX8_isPlate cX8_isPlate 1
theorem kX8_isPlate (l : Launch) (D : va_G) (ad : Nat → Nat) (cA : Nat → ClassId) (A : Nat → Prop) (hlay : am_lays) : am_Met l D ad cA A yX8_isPlate cX8_isPlate 1 (some .boolean) { frames := 0, cells := 0, slots := 0, locals := 0 } fX8_isPlate := by
  have hm : ∀ e ∈ MX8_isPlate, am_cc l D ad cA A yX8_isPlate.cls { frames := 0, cells := 0, slots := 0, locals := 0 } e.1 e.2 := fun _ h => absurd h List.not_mem_nil
  exact am_meth (G := GX8_isPlate) (rk := 1) (plainFor_of_name (by decide)) hlay (fun i z h => okF_X8 _ (am_al_in h)) (fun i z h => okK_X8 _ (am_al_in h)) (fun i z h => okS_X8 _ (am_al_in h)) (Or.inr (Or.inl ⟨rfl, rfl⟩)) (fun i z h => hm _ (am_al_in h))
noncomputable def MX8_spot : List (Nat × am_M) := [(88, (none, 1, fX8_isPlate)), (76, (none, 3, fX8_isWithin)), (80, (some 1, 3, fX1_add))]
noncomputable def GX8_spot : am_G := (am_al FX8, am_al KX8, am_al SX8, am_al MX8_spot)
noncomputable def fX8_spot : List Value → am_H → am_R := am_fn 0 GX8_spot cX8_spot 5
theorem kX8_spot (l : Launch) (D : va_G) (ad : Nat → Nat) (cA : Nat → ClassId) (A : Nat → Prop) (hlay : am_lays) : am_Met l D ad cA A yX8_spot cX8_spot 5 (some .int) { frames := 2, cells := 0, slots := 0, locals := 46 } fX8_spot := by
  have hm : ∀ e ∈ MX8_spot, am_cc l D ad cA A yX8_spot.cls { frames := 2, cells := 0, slots := 0, locals := 46 } e.1 e.2 := List.forall_mem_cons.mpr ⟨Or.inr (Or.inl ⟨yX8_isPlate, cX8_isPlate, 1, (some .boolean), { frames := 0, cells := 0, slots := 0, locals := 0 }, fX8_isPlate, 1, rfl, kX8_isPlate l D ad cA A hlay, ⟨wd_391, wd_55, wd_389, by decide +kernel⟩, wd_390, rfl, rfl, by decide, by decide⟩), List.forall_mem_cons.mpr ⟨Or.inr (Or.inl ⟨yX8_isWithin, cX8_isWithin, 3, (some .boolean), { frames := 0, cells := 0, slots := 0, locals := 0 }, fX8_isWithin, 3, rfl, kX8_isWithin l D ad cA A hlay, ⟨wd_368, wd_55, wd_366, by decide +kernel⟩, wd_367, rfl, rfl, by decide, by decide⟩), List.forall_mem_cons.mpr ⟨Or.inl ⟨yX1_add, cX1_add, 4, (some .int), { frames := 1, cells := 0, slots := 0, locals := 23 }, fX1_add, 3, 1, TX1, 4, rfl, kX1_add l D ad cA A hlay, ⟨wd_372, wd_56, wd_369, by decide +kernel⟩, wd_370, wd_371, rfl, by decide, rfl, rfl, by decide, by decide⟩, fun _ h => absurd h List.not_mem_nil⟩⟩⟩
  exact am_meth (G := GX8_spot) (rk := 0) (plainFor_of_name (by decide)) hlay (fun i z h => okF_X8 _ (am_al_in h)) (fun i z h => okK_X8 _ (am_al_in h)) (fun i z h => okS_X8 _ (am_al_in h)) (Or.inl ⟨rfl, rfl⟩) (fun i z h => hm _ (am_al_in h))
theorem lX8_spot_88 : GX8_spot.2.2.2 88 = some (none, 1, fX8_isPlate) := rfl
theorem lX8_spot_76 : GX8_spot.2.2.2 76 = some (none, 3, fX8_isWithin) := rfl
theorem lX8_spot_18 : GX8_spot.1 18 = some (8, 1) := rfl
theorem lX8_spot_80 : GX8_spot.2.2.2 80 = some (some 1, 3, fX1_add) := rfl
noncomputable def MX8_unspot : List (Nat × am_M) := [(88, (none, 1, fX8_isPlate)), (84, (some 1, 0, fX1_dropLast))]
noncomputable def GX8_unspot : am_G := (am_al FX8, am_al KX8, am_al SX8, am_al MX8_unspot)
noncomputable def fX8_unspot : List Value → am_H → am_R := am_fn 0 GX8_unspot cX8_unspot 2
theorem kX8_unspot (l : Launch) (D : va_G) (ad : Nat → Nat) (cA : Nat → ClassId) (A : Nat → Prop) (hlay : am_lays) : am_Met l D ad cA A yX8_unspot cX8_unspot 2 (some .int) { frames := 1, cells := 0, slots := 0, locals := 20 } fX8_unspot := by
  have hm : ∀ e ∈ MX8_unspot, am_cc l D ad cA A yX8_unspot.cls { frames := 1, cells := 0, slots := 0, locals := 20 } e.1 e.2 := List.forall_mem_cons.mpr ⟨Or.inr (Or.inl ⟨yX8_isPlate, cX8_isPlate, 1, (some .boolean), { frames := 0, cells := 0, slots := 0, locals := 0 }, fX8_isPlate, 1, rfl, kX8_isPlate l D ad cA A hlay, ⟨wd_391, wd_55, wd_389, by decide +kernel⟩, wd_390, rfl, rfl, by decide, by decide⟩), List.forall_mem_cons.mpr ⟨Or.inl ⟨yX1_dropLast, cX1_dropLast, 1, (some .int), { frames := 0, cells := 0, slots := 0, locals := 0 }, fX1_dropLast, 0, 1, TX1, 4, rfl, kX1_dropLast l D ad cA A hlay, ⟨wd_384, wd_56, wd_381, by decide +kernel⟩, wd_382, wd_383, rfl, by decide, rfl, rfl, by decide, by decide⟩, fun _ h => absurd h List.not_mem_nil⟩⟩
  exact am_meth (G := GX8_unspot) (rk := 0) (plainFor_of_name (by decide)) hlay (fun i z h => okF_X8 _ (am_al_in h)) (fun i z h => okK_X8 _ (am_al_in h)) (fun i z h => okS_X8 _ (am_al_in h)) (Or.inl ⟨rfl, rfl⟩) (fun i z h => hm _ (am_al_in h))
theorem lX8_unspot_88 : GX8_unspot.2.2.2 88 = some (none, 1, fX8_isPlate) := rfl
theorem lX8_unspot_18 : GX8_unspot.1 18 = some (8, 1) := rfl
theorem lX8_unspot_84 : GX8_unspot.2.2.2 84 = some (some 1, 0, fX1_dropLast) := rfl
noncomputable def MX8_ofStar : List (Nat × am_M) := [(92, (some 1, 1, fX1_has)), (76, (none, 3, fX8_isWithin)), (98, (some 1, 2, fX1_read))]
noncomputable def GX8_ofStar : am_G := (am_al FX8, am_al KX8, am_al SX8, am_al MX8_ofStar)
noncomputable def fX8_ofStar : List Value → am_H → am_R := am_fn 0 GX8_ofStar cX8_ofStar 3
theorem kX8_ofStar (l : Launch) (D : va_G) (ad : Nat → Nat) (cA : Nat → ClassId) (A : Nat → Prop) (hlay : am_lays) : am_Met l D ad cA A yX8_ofStar cX8_ofStar 3 (some .int) { frames := 1, cells := 0, slots := 0, locals := 22 } fX8_ofStar := by
  have hm : ∀ e ∈ MX8_ofStar, am_cc l D ad cA A yX8_ofStar.cls { frames := 1, cells := 0, slots := 0, locals := 22 } e.1 e.2 := List.forall_mem_cons.mpr ⟨Or.inl ⟨yX1_has, cX1_has, 2, (some .boolean), { frames := 0, cells := 0, slots := 0, locals := 0 }, fX1_has, 1, 1, TX1, 4, rfl, kX1_has l D ad cA A hlay, ⟨wd_403, wd_56, wd_400, by decide +kernel⟩, wd_401, wd_402, rfl, by decide, rfl, rfl, by decide, by decide⟩, List.forall_mem_cons.mpr ⟨Or.inr (Or.inl ⟨yX8_isWithin, cX8_isWithin, 3, (some .boolean), { frames := 0, cells := 0, slots := 0, locals := 0 }, fX8_isWithin, 3, rfl, kX8_isWithin l D ad cA A hlay, ⟨wd_368, wd_55, wd_366, by decide +kernel⟩, wd_367, rfl, rfl, by decide, by decide⟩), List.forall_mem_cons.mpr ⟨Or.inl ⟨yX1_read, cX1_read, 3, (some .int), { frames := 0, cells := 0, slots := 0, locals := 0 }, fX1_read, 2, 1, TX1, 4, rfl, kX1_read l D ad cA A hlay, ⟨wd_407, wd_56, wd_404, by decide +kernel⟩, wd_405, wd_406, rfl, by decide, rfl, rfl, by decide, by decide⟩, fun _ h => absurd h List.not_mem_nil⟩⟩⟩
  exact am_meth (G := GX8_ofStar) (rk := 0) (plainFor_of_name (by decide)) hlay (fun i z h => okF_X8 _ (am_al_in h)) (fun i z h => okK_X8 _ (am_al_in h)) (fun i z h => okS_X8 _ (am_al_in h)) (Or.inl ⟨rfl, rfl⟩) (fun i z h => hm _ (am_al_in h))
theorem lX8_ofStar_14 : GX8_ofStar.1 14 = some (8, 0) := rfl
theorem lX8_ofStar_92 : GX8_ofStar.2.2.2 92 = some (some 1, 1, fX1_has) := rfl
theorem lX8_ofStar_76 : GX8_ofStar.2.2.2 76 = some (none, 3, fX8_isWithin) := rfl
theorem lX8_ofStar_95 : GX8_ofStar.1 95 = some (1, 2) := rfl
theorem lX8_ofStar_98 : GX8_ofStar.2.2.2 98 = some (some 1, 2, fX1_read) := rfl
noncomputable def MX8_isSpot : List (Nat × am_M) := [(88, (none, 1, fX8_isPlate)), (92, (some 1, 1, fX1_has))]
noncomputable def GX8_isSpot : am_G := (am_al FX8, am_al KX8, am_al SX8, am_al MX8_isSpot)
noncomputable def fX8_isSpot : List Value → am_H → am_R := am_fn 1 GX8_isSpot cX8_isSpot 3
theorem kX8_isSpot (l : Launch) (D : va_G) (ad : Nat → Nat) (cA : Nat → ClassId) (A : Nat → Prop) (hlay : am_lays) : am_Met l D ad cA A yX8_isSpot cX8_isSpot 3 (some .boolean) { frames := 1, cells := 0, slots := 0, locals := 21 } fX8_isSpot := by
  have hm : ∀ e ∈ MX8_isSpot, am_cc l D ad cA A yX8_isSpot.cls { frames := 1, cells := 0, slots := 0, locals := 21 } e.1 e.2 := List.forall_mem_cons.mpr ⟨Or.inr (Or.inl ⟨yX8_isPlate, cX8_isPlate, 1, (some .boolean), { frames := 0, cells := 0, slots := 0, locals := 0 }, fX8_isPlate, 1, rfl, kX8_isPlate l D ad cA A hlay, ⟨wd_391, wd_55, wd_389, by decide +kernel⟩, wd_390, rfl, rfl, by decide, by decide⟩), List.forall_mem_cons.mpr ⟨Or.inl ⟨yX1_has, cX1_has, 2, (some .boolean), { frames := 0, cells := 0, slots := 0, locals := 0 }, fX1_has, 1, 1, TX1, 4, rfl, kX1_has l D ad cA A hlay, ⟨wd_403, wd_56, wd_400, by decide +kernel⟩, wd_401, wd_402, rfl, by decide, rfl, rfl, by decide, by decide⟩, fun _ h => absurd h List.not_mem_nil⟩⟩
  exact am_meth (G := GX8_isSpot) (rk := 1) (plainFor_of_name (by decide)) hlay (fun i z h => okF_X8 _ (am_al_in h)) (fun i z h => okK_X8 _ (am_al_in h)) (fun i z h => okS_X8 _ (am_al_in h)) (Or.inr (Or.inl ⟨rfl, rfl⟩)) (fun i z h => hm _ (am_al_in h))
theorem lX8_isSpot_88 : GX8_isSpot.2.2.2 88 = some (none, 1, fX8_isPlate) := rfl
theorem lX8_isSpot_18 : GX8_isSpot.1 18 = some (8, 1) := rfl
theorem lX8_isSpot_92 : GX8_isSpot.2.2.2 92 = some (some 1, 1, fX1_has) := rfl
noncomputable def MX8_ofSpot : List (Nat × am_M) := [(102, (some 8, 2, fX8_isSpot)), (76, (none, 3, fX8_isWithin)), (98, (some 1, 2, fX1_read))]
noncomputable def GX8_ofSpot : am_G := (am_al FX8, am_al KX8, am_al SX8, am_al MX8_ofSpot)
noncomputable def fX8_ofSpot : List Value → am_H → am_R := am_fn 0 GX8_ofSpot cX8_ofSpot 4
theorem kX8_ofSpot (l : Launch) (D : va_G) (ad : Nat → Nat) (cA : Nat → ClassId) (A : Nat → Prop) (hlay : am_lays) : am_Met l D ad cA A yX8_ofSpot cX8_ofSpot 4 (some .int) { frames := 2, cells := 0, slots := 0, locals := 43 } fX8_ofSpot := by
  have hm : ∀ e ∈ MX8_ofSpot, am_cc l D ad cA A yX8_ofSpot.cls { frames := 2, cells := 0, slots := 0, locals := 43 } e.1 e.2 := List.forall_mem_cons.mpr ⟨Or.inl ⟨yX8_isSpot, cX8_isSpot, 3, (some .boolean), { frames := 1, cells := 0, slots := 0, locals := 21 }, fX8_isSpot, 2, 8, TX8, 11, rfl, kX8_isSpot l D ad cA A hlay, ⟨wd_415, wd_55, wd_412, by decide +kernel⟩, wd_414, wd_1, rfl, by decide, rfl, rfl, by decide, by decide⟩, List.forall_mem_cons.mpr ⟨Or.inr (Or.inl ⟨yX8_isWithin, cX8_isWithin, 3, (some .boolean), { frames := 0, cells := 0, slots := 0, locals := 0 }, fX8_isWithin, 3, rfl, kX8_isWithin l D ad cA A hlay, ⟨wd_368, wd_55, wd_366, by decide +kernel⟩, wd_367, rfl, rfl, by decide, by decide⟩), List.forall_mem_cons.mpr ⟨Or.inl ⟨yX1_read, cX1_read, 3, (some .int), { frames := 0, cells := 0, slots := 0, locals := 0 }, fX1_read, 2, 1, TX1, 4, rfl, kX1_read l D ad cA A hlay, ⟨wd_407, wd_56, wd_404, by decide +kernel⟩, wd_405, wd_406, rfl, by decide, rfl, rfl, by decide, by decide⟩, fun _ h => absurd h List.not_mem_nil⟩⟩⟩
  exact am_meth (G := GX8_ofSpot) (rk := 0) (plainFor_of_name (by decide)) hlay (fun i z h => okF_X8 _ (am_al_in h)) (fun i z h => okK_X8 _ (am_al_in h)) (fun i z h => okS_X8 _ (am_al_in h)) (Or.inl ⟨rfl, rfl⟩) (fun i z h => hm _ (am_al_in h))
theorem lX8_ofSpot_102 : GX8_ofSpot.2.2.2 102 = some (some 8, 2, fX8_isSpot) := rfl
theorem lX8_ofSpot_76 : GX8_ofSpot.2.2.2 76 = some (none, 3, fX8_isWithin) := rfl
theorem lX8_ofSpot_18 : GX8_ofSpot.1 18 = some (8, 1) := rfl
theorem lX8_ofSpot_98 : GX8_ofSpot.2.2.2 98 = some (some 1, 2, fX1_read) := rfl
noncomputable def MX8_cutWord : List (Nat × am_M) := []
noncomputable def GX8_cutWord : am_G := (am_al FX8, am_al KX8, am_al SX8, am_al MX8_cutWord)
noncomputable def fX8_cutWord : List Value → am_H → am_R := am_fn 0 GX8_cutWord cX8_cutWord 7
theorem kX8_cutWord (l : Launch) (D : va_G) (ad : Nat → Nat) (cA : Nat → ClassId) (A : Nat → Prop) (hlay : am_lays) : am_Met l D ad cA A yX8_cutWord cX8_cutWord 7 (some .int) { frames := 0, cells := 0, slots := 0, locals := 0 } fX8_cutWord := by
  have hm : ∀ e ∈ MX8_cutWord, am_cc l D ad cA A yX8_cutWord.cls { frames := 0, cells := 0, slots := 0, locals := 0 } e.1 e.2 := fun _ h => absurd h List.not_mem_nil
  exact am_meth (G := GX8_cutWord) (rk := 0) (plainFor_of_name (by decide)) hlay (fun i z h => okF_X8 _ (am_al_in h)) (fun i z h => okK_X8 _ (am_al_in h)) (fun i z h => okS_X8 _ (am_al_in h)) (Or.inl ⟨rfl, rfl⟩) (fun i z h => hm _ (am_al_in h))
theorem lX8_cutWord_269 : GX8_cutWord.2.1 269 = some (.int (8388607)) := rfl
theorem lX8_cutWord_270 : GX8_cutWord.2.1 270 = some (.int (8388608)) := rfl
theorem lX8_cutWord_131 : GX8_cutWord.2.1 131 = some (.int (-2147483648)) := rfl
theorem lX8_cutWord_271 : GX8_cutWord.2.1 271 = some (.int (2147483647)) := rfl
noncomputable def MJ9_min_7cf53 : List (Nat × am_M) := []
noncomputable def GJ9_min_7cf53 : am_G := (am_al FJ9, am_al KJ9, am_al SJ9, am_al MJ9_min_7cf53)
noncomputable def fJ9_min_7cf53 : List Value → am_H → am_R := am_fn 0 GJ9_min_7cf53 cJ9_min_7cf53 2
theorem kJ9_min_7cf53 (l : Launch) (D : va_G) (ad : Nat → Nat) (cA : Nat → ClassId) (A : Nat → Prop) (hlay : am_lays) : am_Met l D ad cA A yJ9_min_7cf53 cJ9_min_7cf53 2 (some .int) { frames := 0, cells := 0, slots := 0, locals := 0 } fJ9_min_7cf53 := by
  have hm : ∀ e ∈ MJ9_min_7cf53, am_cc l D ad cA A yJ9_min_7cf53.cls { frames := 0, cells := 0, slots := 0, locals := 0 } e.1 e.2 := fun _ h => absurd h List.not_mem_nil
  exact am_meth (G := GJ9_min_7cf53) (rk := 0) (by decide +kernel) hlay (fun i z h => okF_J9 _ (am_al_in h)) (fun i z h => okK_J9 _ (am_al_in h)) (fun i z h => okS_J9 _ (am_al_in h)) (Or.inl ⟨rfl, rfl⟩) (fun i z h => hm _ (am_al_in h))
noncomputable def MJ9_max_7cf53 : List (Nat × am_M) := []
noncomputable def GJ9_max_7cf53 : am_G := (am_al FJ9, am_al KJ9, am_al SJ9, am_al MJ9_max_7cf53)
noncomputable def fJ9_max_7cf53 : List Value → am_H → am_R := am_fn 0 GJ9_max_7cf53 cJ9_max_7cf53 2
theorem kJ9_max_7cf53 (l : Launch) (D : va_G) (ad : Nat → Nat) (cA : Nat → ClassId) (A : Nat → Prop) (hlay : am_lays) : am_Met l D ad cA A yJ9_max_7cf53 cJ9_max_7cf53 2 (some .int) { frames := 0, cells := 0, slots := 0, locals := 0 } fJ9_max_7cf53 := by
  have hm : ∀ e ∈ MJ9_max_7cf53, am_cc l D ad cA A yJ9_max_7cf53.cls { frames := 0, cells := 0, slots := 0, locals := 0 } e.1 e.2 := fun _ h => absurd h List.not_mem_nil
  exact am_meth (G := GJ9_max_7cf53) (rk := 0) (by decide +kernel) hlay (fun i z h => okF_J9 _ (am_al_in h)) (fun i z h => okK_J9 _ (am_al_in h)) (fun i z h => okS_J9 _ (am_al_in h)) (Or.inl ⟨rfl, rfl⟩) (fun i z h => hm _ (am_al_in h))
noncomputable def MX8_light : List (Nat × am_M) := [(102, (some 8, 2, fX8_isSpot)), (106, (none, 2, fX8_cutWord)), (109, (none, 2, fJ9_min_7cf53)), (114, (none, 2, fJ9_max_7cf53))]
noncomputable def GX8_light : am_G := (am_al FX8, am_al KX8, am_al SX8, am_al MX8_light)
noncomputable def fX8_light : List Value → am_H → am_R := am_fn 0 GX8_light cX8_light 5
theorem kX8_light (l : Launch) (D : va_G) (ad : Nat → Nat) (cA : Nat → ClassId) (A : Nat → Prop) (hlay : am_lays) : am_Met l D ad cA A yX8_light cX8_light 5 (some .int) { frames := 2, cells := 0, slots := 0, locals := 43 } fX8_light := by
  have hm : ∀ e ∈ MX8_light, am_cc l D ad cA A yX8_light.cls { frames := 2, cells := 0, slots := 0, locals := 43 } e.1 e.2 := List.forall_mem_cons.mpr ⟨Or.inl ⟨yX8_isSpot, cX8_isSpot, 3, (some .boolean), { frames := 1, cells := 0, slots := 0, locals := 21 }, fX8_isSpot, 2, 8, TX8, 11, rfl, kX8_isSpot l D ad cA A hlay, ⟨wd_415, wd_55, wd_412, by decide +kernel⟩, wd_414, wd_1, rfl, by decide, rfl, rfl, by decide, by decide⟩, List.forall_mem_cons.mpr ⟨Or.inr (Or.inl ⟨yX8_cutWord, cX8_cutWord, 7, (some .int), { frames := 0, cells := 0, slots := 0, locals := 0 }, fX8_cutWord, 2, rfl, kX8_cutWord l D ad cA A hlay, ⟨wd_422, wd_55, wd_420, by decide +kernel⟩, wd_421, rfl, rfl, by decide, by decide⟩), List.forall_mem_cons.mpr ⟨Or.inr (Or.inl ⟨yJ9_min_7cf53, cJ9_min_7cf53, 2, (some .int), { frames := 0, cells := 0, slots := 0, locals := 0 }, fJ9_min_7cf53, 2, rfl, kJ9_min_7cf53 l D ad cA A hlay, ⟨wd_429, wd_65, wd_427, by decide +kernel⟩, wd_428, rfl, rfl, by decide, by decide⟩), List.forall_mem_cons.mpr ⟨Or.inr (Or.inl ⟨yJ9_max_7cf53, cJ9_max_7cf53, 2, (some .int), { frames := 0, cells := 0, slots := 0, locals := 0 }, fJ9_max_7cf53, 2, rfl, kJ9_max_7cf53 l D ad cA A hlay, ⟨wd_432, wd_65, wd_430, by decide +kernel⟩, wd_431, rfl, rfl, by decide, by decide⟩), fun _ h => absurd h List.not_mem_nil⟩⟩⟩⟩
  exact am_meth (G := GX8_light) (rk := 0) (plainFor_of_name (by decide)) hlay (fun i z h => okF_X8 _ (am_al_in h)) (fun i z h => okK_X8 _ (am_al_in h)) (fun i z h => okS_X8 _ (am_al_in h)) (Or.inl ⟨rfl, rfl⟩) (fun i z h => hm _ (am_al_in h))
theorem lX8_light_102 : GX8_light.2.2.2 102 = some (some 8, 2, fX8_isSpot) := rfl
theorem lX8_light_18 : GX8_light.1 18 = some (8, 1) := rfl
theorem lX8_light_95 : GX8_light.1 95 = some (1, 2) := rfl
theorem lX8_light_106 : GX8_light.2.2.2 106 = some (none, 2, fX8_cutWord) := rfl
theorem lX8_light_109 : GX8_light.2.2.2 109 = some (none, 2, fJ9_min_7cf53) := rfl
theorem lX8_light_114 : GX8_light.2.2.2 114 = some (none, 2, fJ9_max_7cf53) := rfl
noncomputable def MJ9_abs_067f4 : List (Nat × am_M) := []
noncomputable def GJ9_abs_067f4 : am_G := (am_al FJ9, am_al KJ9, am_al SJ9, am_al MJ9_abs_067f4)
noncomputable def fJ9_abs_067f4 : List Value → am_H → am_R := am_fn 2 GJ9_abs_067f4 cJ9_abs_067f4 2
theorem kJ9_abs_067f4 (l : Launch) (D : va_G) (ad : Nat → Nat) (cA : Nat → ClassId) (A : Nat → Prop) (hlay : am_lays) : am_Met l D ad cA A yJ9_abs_067f4 cJ9_abs_067f4 2 (some .long) { frames := 0, cells := 0, slots := 0, locals := 0 } fJ9_abs_067f4 := by
  have hm : ∀ e ∈ MJ9_abs_067f4, am_cc l D ad cA A yJ9_abs_067f4.cls { frames := 0, cells := 0, slots := 0, locals := 0 } e.1 e.2 := fun _ h => absurd h List.not_mem_nil
  exact am_meth (G := GJ9_abs_067f4) (rk := 2) (by decide +kernel) hlay (fun i z h => okF_J9 _ (am_al_in h)) (fun i z h => okK_J9 _ (am_al_in h)) (fun i z h => okS_J9 _ (am_al_in h)) (Or.inr (Or.inr (Or.inl ⟨rfl, rfl⟩))) (fun i z h => hm _ (am_al_in h))
noncomputable def MX8_highestBit : List (Nat × am_M) := []
noncomputable def GX8_highestBit : am_G := (am_al FX8, am_al KX8, am_al SX8, am_al MX8_highestBit)
noncomputable def fX8_highestBit : List Value → am_H → am_R := am_fn 0 GX8_highestBit cX8_highestBit 4
theorem kX8_highestBit (l : Launch) (D : va_G) (ad : Nat → Nat) (cA : Nat → ClassId) (A : Nat → Prop) (hlay : am_lays) : am_Met l D ad cA A yX8_highestBit cX8_highestBit 4 (some .int) { frames := 0, cells := 0, slots := 0, locals := 0 } fX8_highestBit := by
  have hm : ∀ e ∈ MX8_highestBit, am_cc l D ad cA A yX8_highestBit.cls { frames := 0, cells := 0, slots := 0, locals := 0 } e.1 e.2 := fun _ h => absurd h List.not_mem_nil
  exact am_meth (G := GX8_highestBit) (rk := 0) (plainFor_of_name (by decide)) hlay (fun i z h => okF_X8 _ (am_al_in h)) (fun i z h => okK_X8 _ (am_al_in h)) (fun i z h => okS_X8 _ (am_al_in h)) (Or.inl ⟨rfl, rfl⟩) (fun i z h => hm _ (am_al_in h))
noncomputable def MX8_nearestUpper : List (Nat × am_M) := []
noncomputable def GX8_nearestUpper : am_G := (am_al FX8, am_al KX8, am_al SX8, am_al MX8_nearestUpper)
noncomputable def fX8_nearestUpper : List Value → am_H → am_R := am_fn 2 GX8_nearestUpper cX8_nearestUpper 10
theorem kX8_nearestUpper (l : Launch) (D : va_G) (ad : Nat → Nat) (cA : Nat → ClassId) (A : Nat → Prop) (hlay : am_lays) : am_Met l D ad cA A yX8_nearestUpper cX8_nearestUpper 10 (some .long) { frames := 0, cells := 0, slots := 0, locals := 0 } fX8_nearestUpper := by
  have hm : ∀ e ∈ MX8_nearestUpper, am_cc l D ad cA A yX8_nearestUpper.cls { frames := 0, cells := 0, slots := 0, locals := 0 } e.1 e.2 := fun _ h => absurd h List.not_mem_nil
  exact am_meth (G := GX8_nearestUpper) (rk := 2) (plainFor_of_name (by decide)) hlay (fun i z h => okF_X8 _ (am_al_in h)) (fun i z h => okK_X8 _ (am_al_in h)) (fun i z h => okS_X8 _ (am_al_in h)) (Or.inr (Or.inr (Or.inl ⟨rfl, rfl⟩))) (fun i z h => hm _ (am_al_in h))
noncomputable def MX8_word : List (Nat × am_M) := [(117, (none, 1, fJ9_abs_067f4)), (121, (none, 1, fX8_highestBit)), (125, (none, 2, fX8_nearestUpper))]
noncomputable def GX8_word : am_G := (am_al FX8, am_al KX8, am_al SX8, am_al MX8_word)
noncomputable def fX8_word : List Value → am_H → am_R := am_fn 0 GX8_word cX8_word 8
theorem kX8_word (l : Launch) (D : va_G) (ad : Nat → Nat) (cA : Nat → ClassId) (A : Nat → Prop) (hlay : am_lays) : am_Met l D ad cA A yX8_word cX8_word 8 (some .int) { frames := 1, cells := 0, slots := 0, locals := 29 } fX8_word := by
  have hm : ∀ e ∈ MX8_word, am_cc l D ad cA A yX8_word.cls { frames := 1, cells := 0, slots := 0, locals := 29 } e.1 e.2 := List.forall_mem_cons.mpr ⟨Or.inr (Or.inl ⟨yJ9_abs_067f4, cJ9_abs_067f4, 2, (some .long), { frames := 0, cells := 0, slots := 0, locals := 0 }, fJ9_abs_067f4, 1, rfl, kJ9_abs_067f4 l D ad cA A hlay, ⟨wd_439, wd_65, wd_437, by decide +kernel⟩, wd_438, rfl, rfl, by decide, by decide⟩), List.forall_mem_cons.mpr ⟨Or.inr (Or.inl ⟨yX8_highestBit, cX8_highestBit, 4, (some .int), { frames := 0, cells := 0, slots := 0, locals := 0 }, fX8_highestBit, 1, rfl, kX8_highestBit l D ad cA A hlay, ⟨wd_442, wd_55, wd_440, by decide +kernel⟩, wd_441, rfl, rfl, by decide, by decide⟩), List.forall_mem_cons.mpr ⟨Or.inr (Or.inl ⟨yX8_nearestUpper, cX8_nearestUpper, 10, (some .long), { frames := 0, cells := 0, slots := 0, locals := 0 }, fX8_nearestUpper, 2, rfl, kX8_nearestUpper l D ad cA A hlay, ⟨wd_445, wd_55, wd_443, by decide +kernel⟩, wd_444, rfl, rfl, by decide, by decide⟩), fun _ h => absurd h List.not_mem_nil⟩⟩⟩
  exact am_meth (G := GX8_word) (rk := 0) (plainFor_of_name (by decide)) hlay (fun i z h => okF_X8 _ (am_al_in h)) (fun i z h => okK_X8 _ (am_al_in h)) (fun i z h => okS_X8 _ (am_al_in h)) (Or.inl ⟨rfl, rfl⟩) (fun i z h => hm _ (am_al_in h))
theorem lX8_word_117 : GX8_word.2.2.2 117 = some (none, 1, fJ9_abs_067f4) := rfl
theorem lX8_word_121 : GX8_word.2.2.2 121 = some (none, 1, fX8_highestBit) := rfl
theorem lX8_word_125 : GX8_word.2.2.2 125 = some (none, 2, fX8_nearestUpper) := rfl
theorem lX8_word_129 : GX8_word.2.1 129 = some (.long (8388608)) := rfl
theorem lX8_word_131 : GX8_word.2.1 131 = some (.int (-2147483648)) := rfl
noncomputable def MX8_number : List (Nat × am_M) := [(106, (none, 2, fX8_cutWord))]
noncomputable def GX8_number : am_G := (am_al FX8, am_al KX8, am_al SX8, am_al MX8_number)
noncomputable def fX8_number : List Value → am_H → am_R := am_fn 0 GX8_number cX8_number 2
theorem kX8_number (l : Launch) (D : va_G) (ad : Nat → Nat) (cA : Nat → ClassId) (A : Nat → Prop) (hlay : am_lays) : am_Met l D ad cA A yX8_number cX8_number 2 (some .int) { frames := 1, cells := 0, slots := 0, locals := 26 } fX8_number := by
  have hm : ∀ e ∈ MX8_number, am_cc l D ad cA A yX8_number.cls { frames := 1, cells := 0, slots := 0, locals := 26 } e.1 e.2 := List.forall_mem_cons.mpr ⟨Or.inr (Or.inl ⟨yX8_cutWord, cX8_cutWord, 7, (some .int), { frames := 0, cells := 0, slots := 0, locals := 0 }, fX8_cutWord, 2, rfl, kX8_cutWord l D ad cA A hlay, ⟨wd_422, wd_55, wd_420, by decide +kernel⟩, wd_421, rfl, rfl, by decide, by decide⟩), fun _ h => absurd h List.not_mem_nil⟩
  exact am_meth (G := GX8_number) (rk := 0) (plainFor_of_name (by decide)) hlay (fun i z h => okF_X8 _ (am_al_in h)) (fun i z h => okK_X8 _ (am_al_in h)) (fun i z h => okS_X8 _ (am_al_in h)) (Or.inl ⟨rfl, rfl⟩) (fun i z h => hm _ (am_al_in h))
theorem lX8_number_106 : GX8_number.2.2.2 106 = some (none, 2, fX8_cutWord) := rfl
noncomputable def MX8_set : List (Nat × am_M) := [(76, (none, 3, fX8_isWithin))]
noncomputable def GX8_set : am_G := (am_al FX8, am_al KX8, am_al SX8, am_al MX8_set)
noncomputable def fX8_set : List Value → am_H → am_R := am_fn 0 GX8_set cX8_set 4
theorem kX8_set (l : Launch) (D : va_G) (ad : Nat → Nat) (cA : Nat → ClassId) (A : Nat → Prop) (hlay : am_lays) : am_Met l D ad cA A yX8_set cX8_set 4 (some .int) { frames := 1, cells := 0, slots := 0, locals := 22 } fX8_set := by
  have hm : ∀ e ∈ MX8_set, am_cc l D ad cA A yX8_set.cls { frames := 1, cells := 0, slots := 0, locals := 22 } e.1 e.2 := List.forall_mem_cons.mpr ⟨Or.inr (Or.inl ⟨yX8_isWithin, cX8_isWithin, 3, (some .boolean), { frames := 0, cells := 0, slots := 0, locals := 0 }, fX8_isWithin, 3, rfl, kX8_isWithin l D ad cA A hlay, ⟨wd_368, wd_55, wd_366, by decide +kernel⟩, wd_367, rfl, rfl, by decide, by decide⟩), fun _ h => absurd h List.not_mem_nil⟩
  exact am_meth (G := GX8_set) (rk := 0) (plainFor_of_name (by decide)) hlay (fun i z h => okF_X8 _ (am_al_in h)) (fun i z h => okK_X8 _ (am_al_in h)) (fun i z h => okS_X8 _ (am_al_in h)) (Or.inl ⟨rfl, rfl⟩) (fun i z h => hm _ (am_al_in h))
theorem lX8_set_76 : GX8_set.2.2.2 76 = some (none, 3, fX8_isWithin) := rfl
theorem lX8_set_132 : GX8_set.2.2.1 132 = some 99 := rfl
theorem lX8_set_135 : GX8_set.2.2.1 135 = some 100 := rfl
theorem lX8_set_37 : GX8_set.1 37 = some (8, 5) := rfl
noncomputable def MX8_triple : List (Nat × am_M) := [(88, (none, 1, fX8_isPlate)), (92, (some 1, 1, fX1_has)), (76, (none, 3, fX8_isWithin)), (138, (some 5, 4, fX5_measure))]
noncomputable def GX8_triple : am_G := (am_al FX8, am_al KX8, am_al SX8, am_al MX8_triple)
noncomputable def fX8_triple : List Value → am_H → am_R := am_fn 0 GX8_triple cX8_triple 7
theorem kX8_triple (l : Launch) (D : va_G) (ad : Nat → Nat) (cA : Nat → ClassId) (A : Nat → Prop) (hlay : am_lays) : am_Met l D ad cA A yX8_triple cX8_triple 7 (some .int) { frames := 2, cells := 0, slots := 0, locals := 54 } fX8_triple := by
  have hm : ∀ e ∈ MX8_triple, am_cc l D ad cA A yX8_triple.cls { frames := 2, cells := 0, slots := 0, locals := 54 } e.1 e.2 := List.forall_mem_cons.mpr ⟨Or.inr (Or.inl ⟨yX8_isPlate, cX8_isPlate, 1, (some .boolean), { frames := 0, cells := 0, slots := 0, locals := 0 }, fX8_isPlate, 1, rfl, kX8_isPlate l D ad cA A hlay, ⟨wd_391, wd_55, wd_389, by decide +kernel⟩, wd_390, rfl, rfl, by decide, by decide⟩), List.forall_mem_cons.mpr ⟨Or.inl ⟨yX1_has, cX1_has, 2, (some .boolean), { frames := 0, cells := 0, slots := 0, locals := 0 }, fX1_has, 1, 1, TX1, 4, rfl, kX1_has l D ad cA A hlay, ⟨wd_403, wd_56, wd_400, by decide +kernel⟩, wd_401, wd_402, rfl, by decide, rfl, rfl, by decide, by decide⟩, List.forall_mem_cons.mpr ⟨Or.inr (Or.inl ⟨yX8_isWithin, cX8_isWithin, 3, (some .boolean), { frames := 0, cells := 0, slots := 0, locals := 0 }, fX8_isWithin, 3, rfl, kX8_isWithin l D ad cA A hlay, ⟨wd_368, wd_55, wd_366, by decide +kernel⟩, wd_367, rfl, rfl, by decide, by decide⟩), List.forall_mem_cons.mpr ⟨Or.inl ⟨yX5_measure, cX5_measure, 7, none, { frames := 1, cells := 0, slots := 0, locals := 28 }, fX5_measure, 4, 5, TX5, 6, rfl, kX5_measure l D ad cA A hlay, ⟨wd_466, wd_58, wd_463, by decide +kernel⟩, wd_464, wd_465, rfl, by decide, rfl, rfl, by decide, by decide⟩, fun _ h => absurd h List.not_mem_nil⟩⟩⟩⟩
  exact am_meth (G := GX8_triple) (rk := 0) (plainFor_of_name (by decide)) hlay (fun i z h => okF_X8 _ (am_al_in h)) (fun i z h => okK_X8 _ (am_al_in h)) (fun i z h => okS_X8 _ (am_al_in h)) (Or.inl ⟨rfl, rfl⟩) (fun i z h => hm _ (am_al_in h))
theorem lX8_triple_88 : GX8_triple.2.2.2 88 = some (none, 1, fX8_isPlate) := rfl
theorem lX8_triple_14 : GX8_triple.1 14 = some (8, 0) := rfl
theorem lX8_triple_18 : GX8_triple.1 18 = some (8, 1) := rfl
theorem lX8_triple_92 : GX8_triple.2.2.2 92 = some (some 1, 1, fX1_has) := rfl
theorem lX8_triple_76 : GX8_triple.2.2.2 76 = some (none, 3, fX8_isWithin) := rfl
theorem lX8_triple_44 : GX8_triple.1 44 = some (8, 6) := rfl
theorem lX8_triple_138 : GX8_triple.2.2.2 138 = some (some 5, 4, fX5_measure) := rfl
theorem lX8_triple_142 : GX8_triple.1 142 = some (5, 2) := rfl
theorem lX8_triple_146 : GX8_triple.1 146 = some (5, 3) := rfl
theorem lX8_triple_150 : GX8_triple.1 150 = some (5, 4) := rfl
theorem lX8_triple_153 : GX8_triple.1 153 = some (5, 5) := rfl
theorem lX8_triple_156 : GX8_triple.1 156 = some (5, 0) := rfl
noncomputable def MX8_alike : List (Nat × am_M) := [(88, (none, 1, fX8_isPlate)), (159, (some 0, 3, fX0_hold))]
noncomputable def GX8_alike : am_G := (am_al FX8, am_al KX8, am_al SX8, am_al MX8_alike)
noncomputable def fX8_alike : List Value → am_H → am_R := am_fn 0 GX8_alike cX8_alike 2
theorem kX8_alike (l : Launch) (D : va_G) (ad : Nat → Nat) (cA : Nat → ClassId) (A : Nat → Prop) (hlay : am_lays) : am_Met l D ad cA A yX8_alike cX8_alike 2 (some .int) { frames := 4, cells := 0, slots := 0, locals := 103 } fX8_alike := by
  have hm : ∀ e ∈ MX8_alike, am_cc l D ad cA A yX8_alike.cls { frames := 4, cells := 0, slots := 0, locals := 103 } e.1 e.2 := List.forall_mem_cons.mpr ⟨Or.inr (Or.inl ⟨yX8_isPlate, cX8_isPlate, 1, (some .boolean), { frames := 0, cells := 0, slots := 0, locals := 0 }, fX8_isPlate, 1, rfl, kX8_isPlate l D ad cA A hlay, ⟨wd_391, wd_55, wd_389, by decide +kernel⟩, wd_390, rfl, rfl, by decide, by decide⟩), List.forall_mem_cons.mpr ⟨Or.inl ⟨yX0_hold, cX0_hold, 6, none, { frames := 3, cells := 0, slots := 0, locals := 78 }, fX0_hold, 3, 0, TX0, 4, rfl, kX0_hold l D ad cA A hlay, ⟨wd_490, wd_59, wd_487, by decide +kernel⟩, wd_488, wd_489, rfl, by decide, rfl, rfl, by decide, by decide⟩, fun _ h => absurd h List.not_mem_nil⟩⟩
  exact am_meth (G := GX8_alike) (rk := 0) (plainFor_of_name (by decide)) hlay (fun i z h => okF_X8 _ (am_al_in h)) (fun i z h => okK_X8 _ (am_al_in h)) (fun i z h => okS_X8 _ (am_al_in h)) (Or.inl ⟨rfl, rfl⟩) (fun i z h => hm _ (am_al_in h))
theorem lX8_alike_88 : GX8_alike.2.2.2 88 = some (none, 1, fX8_isPlate) := rfl
theorem lX8_alike_51 : GX8_alike.1 51 = some (8, 7) := rfl
theorem lX8_alike_14 : GX8_alike.1 14 = some (8, 0) := rfl
theorem lX8_alike_18 : GX8_alike.1 18 = some (8, 1) := rfl
theorem lX8_alike_37 : GX8_alike.1 37 = some (8, 5) := rfl
theorem lX8_alike_159 : GX8_alike.2.2.2 159 = some (some 0, 3, fX0_hold) := rfl
theorem lX8_alike_163 : GX8_alike.1 163 = some (0, 3) := rfl
noncomputable def MX8_votes : List (Nat × am_M) := [(102, (some 8, 2, fX8_isSpot)), (92, (some 1, 1, fX1_has)), (159, (some 0, 3, fX0_hold)), (166, (some 0, 2, fX0_of))]
noncomputable def GX8_votes : am_G := (am_al FX8, am_al KX8, am_al SX8, am_al MX8_votes)
noncomputable def fX8_votes : List Value → am_H → am_R := am_fn 0 GX8_votes cX8_votes 4
theorem kX8_votes (l : Launch) (D : va_G) (ad : Nat → Nat) (cA : Nat → ClassId) (A : Nat → Prop) (hlay : am_lays) : am_Met l D ad cA A yX8_votes cX8_votes 4 (some .int) { frames := 4, cells := 0, slots := 0, locals := 103 } fX8_votes := by
  have hm : ∀ e ∈ MX8_votes, am_cc l D ad cA A yX8_votes.cls { frames := 4, cells := 0, slots := 0, locals := 103 } e.1 e.2 := List.forall_mem_cons.mpr ⟨Or.inl ⟨yX8_isSpot, cX8_isSpot, 3, (some .boolean), { frames := 1, cells := 0, slots := 0, locals := 21 }, fX8_isSpot, 2, 8, TX8, 11, rfl, kX8_isSpot l D ad cA A hlay, ⟨wd_415, wd_55, wd_412, by decide +kernel⟩, wd_414, wd_1, rfl, by decide, rfl, rfl, by decide, by decide⟩, List.forall_mem_cons.mpr ⟨Or.inl ⟨yX1_has, cX1_has, 2, (some .boolean), { frames := 0, cells := 0, slots := 0, locals := 0 }, fX1_has, 1, 1, TX1, 4, rfl, kX1_has l D ad cA A hlay, ⟨wd_403, wd_56, wd_400, by decide +kernel⟩, wd_401, wd_402, rfl, by decide, rfl, rfl, by decide, by decide⟩, List.forall_mem_cons.mpr ⟨Or.inl ⟨yX0_hold, cX0_hold, 6, none, { frames := 3, cells := 0, slots := 0, locals := 78 }, fX0_hold, 3, 0, TX0, 4, rfl, kX0_hold l D ad cA A hlay, ⟨wd_490, wd_59, wd_487, by decide +kernel⟩, wd_488, wd_489, rfl, by decide, rfl, rfl, by decide, by decide⟩, List.forall_mem_cons.mpr ⟨Or.inl ⟨yX0_of, cX0_of, 3, (some .int), { frames := 0, cells := 0, slots := 0, locals := 0 }, fX0_of, 2, 0, TX0, 4, rfl, kX0_of l D ad cA A hlay, ⟨wd_521, wd_59, wd_518, by decide +kernel⟩, wd_519, wd_520, rfl, by decide, rfl, rfl, by decide, by decide⟩, fun _ h => absurd h List.not_mem_nil⟩⟩⟩⟩
  exact am_meth (G := GX8_votes) (rk := 0) (plainFor_of_name (by decide)) hlay (fun i z h => okF_X8 _ (am_al_in h)) (fun i z h => okK_X8 _ (am_al_in h)) (fun i z h => okS_X8 _ (am_al_in h)) (Or.inl ⟨rfl, rfl⟩) (fun i z h => hm _ (am_al_in h))
theorem lX8_votes_102 : GX8_votes.2.2.2 102 = some (some 8, 2, fX8_isSpot) := rfl
theorem lX8_votes_14 : GX8_votes.1 14 = some (8, 0) := rfl
theorem lX8_votes_92 : GX8_votes.2.2.2 92 = some (some 1, 1, fX1_has) := rfl
theorem lX8_votes_51 : GX8_votes.1 51 = some (8, 7) := rfl
theorem lX8_votes_18 : GX8_votes.1 18 = some (8, 1) := rfl
theorem lX8_votes_37 : GX8_votes.1 37 = some (8, 5) := rfl
theorem lX8_votes_159 : GX8_votes.2.2.2 159 = some (some 0, 3, fX0_hold) := rfl
theorem lX8_votes_166 : GX8_votes.2.2.2 166 = some (some 0, 2, fX0_of) := rfl
noncomputable def MX8_pairUp : List (Nat × am_M) := [(159, (some 0, 3, fX0_hold)), (272, (some 4, 3, fX4_fill))]
noncomputable def GX8_pairUp : am_G := (am_al FX8, am_al KX8, am_al SX8, am_al MX8_pairUp)
noncomputable def fX8_pairUp : List Value → am_H → am_R := am_fn 3 GX8_pairUp cX8_pairUp 2
theorem kX8_pairUp (l : Launch) (D : va_G) (ad : Nat → Nat) (cA : Nat → ClassId) (A : Nat → Prop) (hlay : am_lays) : am_Met l D ad cA A yX8_pairUp cX8_pairUp 2 none { frames := 4, cells := 0, slots := 0, locals := 103 } fX8_pairUp := by
  have hm : ∀ e ∈ MX8_pairUp, am_cc l D ad cA A yX8_pairUp.cls { frames := 4, cells := 0, slots := 0, locals := 103 } e.1 e.2 := List.forall_mem_cons.mpr ⟨Or.inl ⟨yX0_hold, cX0_hold, 6, none, { frames := 3, cells := 0, slots := 0, locals := 78 }, fX0_hold, 3, 0, TX0, 4, rfl, kX0_hold l D ad cA A hlay, ⟨wd_490, wd_59, wd_487, by decide +kernel⟩, wd_488, wd_489, rfl, by decide, rfl, rfl, by decide, by decide⟩, List.forall_mem_cons.mpr ⟨Or.inl ⟨yX4_fill, cX4_fill, 5, none, { frames := 2, cells := 0, slots := 0, locals := 50 }, fX4_fill, 3, 4, TX4, 3, rfl, kX4_fill l D ad cA A hlay, ⟨wd_537, wd_61, wd_534, by decide +kernel⟩, wd_535, wd_536, rfl, by decide, rfl, rfl, by decide, by decide⟩, fun _ h => absurd h List.not_mem_nil⟩⟩
  exact am_meth (G := GX8_pairUp) (rk := 3) (plainFor_of_name (by decide)) hlay (fun i z h => okF_X8 _ (am_al_in h)) (fun i z h => okK_X8 _ (am_al_in h)) (fun i z h => okS_X8 _ (am_al_in h)) (Or.inr (Or.inr (Or.inr ⟨rfl, rfl⟩))) (fun i z h => hm _ (am_al_in h))
theorem lX8_pairUp_51 : GX8_pairUp.1 51 = some (8, 7) := rfl
theorem lX8_pairUp_14 : GX8_pairUp.1 14 = some (8, 0) := rfl
theorem lX8_pairUp_18 : GX8_pairUp.1 18 = some (8, 1) := rfl
theorem lX8_pairUp_37 : GX8_pairUp.1 37 = some (8, 5) := rfl
theorem lX8_pairUp_159 : GX8_pairUp.2.2.2 159 = some (some 0, 3, fX0_hold) := rfl
theorem lX8_pairUp_58 : GX8_pairUp.1 58 = some (8, 8) := rfl
theorem lX8_pairUp_215 : GX8_pairUp.1 215 = some (1, 3) := rfl
theorem lX8_pairUp_272 : GX8_pairUp.2.2.2 272 = some (some 4, 3, fX4_fill) := rfl
noncomputable def MX8_fitPairs : List (Nat × am_M) := [(282, (some 2, 0, fX2_start)), (208, (some 4, 1, fX4_holds)), (285, (some 2, 4, fX2_take)), (289, (some 2, 0, fX2_solve))]
noncomputable def GX8_fitPairs : am_G := (am_al FX8, am_al KX8, am_al SX8, am_al MX8_fitPairs)
noncomputable def fX8_fitPairs : List Value → am_H → am_R := am_fn 1 GX8_fitPairs cX8_fitPairs 4
theorem kX8_fitPairs (l : Launch) (D : va_G) (ad : Nat → Nat) (cA : Nat → ClassId) (A : Nat → Prop) (hlay : am_lays) : am_Met l D ad cA A yX8_fitPairs cX8_fitPairs 4 (some .boolean) { frames := 1, cells := 0, slots := 0, locals := 29 } fX8_fitPairs := by
  have hm : ∀ e ∈ MX8_fitPairs, am_cc l D ad cA A yX8_fitPairs.cls { frames := 1, cells := 0, slots := 0, locals := 29 } e.1 e.2 := List.forall_mem_cons.mpr ⟨Or.inl ⟨yX2_start, cX2_start, 1, none, { frames := 0, cells := 0, slots := 0, locals := 0 }, fX2_start, 0, 2, TX2, 12, rfl, kX2_start l D ad cA A hlay, ⟨wd_554, wd_62, wd_551, by decide +kernel⟩, wd_552, wd_553, rfl, by decide, rfl, rfl, by decide, by decide⟩, List.forall_mem_cons.mpr ⟨Or.inl ⟨yX4_holds, cX4_holds, 2, (some .boolean), { frames := 0, cells := 0, slots := 0, locals := 0 }, fX4_holds, 1, 4, TX4, 3, rfl, kX4_holds l D ad cA A hlay, ⟨wd_545, wd_61, wd_555, by decide +kernel⟩, wd_543, wd_544, rfl, by decide, rfl, rfl, by decide, by decide⟩, List.forall_mem_cons.mpr ⟨Or.inl ⟨yX2_take, cX2_take, 5, none, { frames := 0, cells := 0, slots := 0, locals := 0 }, fX2_take, 4, 2, TX2, 12, rfl, kX2_take l D ad cA A hlay, ⟨wd_559, wd_62, wd_556, by decide +kernel⟩, wd_557, wd_558, rfl, by decide, rfl, rfl, by decide, by decide⟩, List.forall_mem_cons.mpr ⟨Or.inl ⟨yX2_solve, cX2_solve, 10, (some .boolean), { frames := 0, cells := 0, slots := 0, locals := 0 }, fX2_solve, 0, 2, TX2, 12, rfl, kX2_solve l D ad cA A hlay, ⟨wd_563, wd_62, wd_560, by decide +kernel⟩, wd_561, wd_562, rfl, by decide, rfl, rfl, by decide, by decide⟩, fun _ h => absurd h List.not_mem_nil⟩⟩⟩⟩
  exact am_meth (G := GX8_fitPairs) (rk := 1) (plainFor_of_name (by decide)) hlay (fun i z h => okF_X8 _ (am_al_in h)) (fun i z h => okK_X8 _ (am_al_in h)) (fun i z h => okS_X8 _ (am_al_in h)) (Or.inr (Or.inl ⟨rfl, rfl⟩)) (fun i z h => hm _ (am_al_in h))
theorem lX8_fitPairs_65 : GX8_fitPairs.1 65 = some (8, 9) := rfl
theorem lX8_fitPairs_282 : GX8_fitPairs.2.2.2 282 = some (some 2, 0, fX2_start) := rfl
theorem lX8_fitPairs_14 : GX8_fitPairs.1 14 = some (8, 0) := rfl
theorem lX8_fitPairs_215 : GX8_fitPairs.1 215 = some (1, 3) := rfl
theorem lX8_fitPairs_58 : GX8_fitPairs.1 58 = some (8, 8) := rfl
theorem lX8_fitPairs_208 : GX8_fitPairs.2.2.2 208 = some (some 4, 1, fX4_holds) := rfl
theorem lX8_fitPairs_176 : GX8_fitPairs.1 176 = some (4, 0) := rfl
theorem lX8_fitPairs_198 : GX8_fitPairs.1 198 = some (1, 0) := rfl
theorem lX8_fitPairs_201 : GX8_fitPairs.1 201 = some (1, 1) := rfl
theorem lX8_fitPairs_18 : GX8_fitPairs.1 18 = some (8, 1) := rfl
theorem lX8_fitPairs_285 : GX8_fitPairs.2.2.2 285 = some (some 2, 4, fX2_take) := rfl
theorem lX8_fitPairs_289 : GX8_fitPairs.2.2.2 289 = some (some 2, 0, fX2_solve) := rfl
noncomputable def MX8_missOf : List (Nat × am_M) := [(204, (some 2, 3, fX2_placeOf))]
noncomputable def GX8_missOf : am_G := (am_al FX8, am_al KX8, am_al SX8, am_al MX8_missOf)
noncomputable def fX8_missOf : List Value → am_H → am_R := am_fn 2 GX8_missOf cX8_missOf 8
theorem kX8_missOf (l : Launch) (D : va_G) (ad : Nat → Nat) (cA : Nat → ClassId) (A : Nat → Prop) (hlay : am_lays) : am_Met l D ad cA A yX8_missOf cX8_missOf 8 (some .long) { frames := 2, cells := 0, slots := 0, locals := 56 } fX8_missOf := by
  have hm : ∀ e ∈ MX8_missOf, am_cc l D ad cA A yX8_missOf.cls { frames := 2, cells := 0, slots := 0, locals := 56 } e.1 e.2 := List.forall_mem_cons.mpr ⟨Or.inl ⟨yX2_placeOf, cX2_placeOf, 12, (some .long), { frames := 1, cells := 0, slots := 0, locals := 25 }, fX2_placeOf, 3, 2, TX2, 12, rfl, kX2_placeOf l D ad cA A hlay, ⟨wd_575, wd_62, wd_572, by decide +kernel⟩, wd_573, wd_574, rfl, by decide, rfl, rfl, by decide, by decide⟩, fun _ h => absurd h List.not_mem_nil⟩
  exact am_meth (G := GX8_missOf) (rk := 2) (plainFor_of_name (by decide)) hlay (fun i z h => okF_X8 _ (am_al_in h)) (fun i z h => okK_X8 _ (am_al_in h)) (fun i z h => okS_X8 _ (am_al_in h)) (Or.inr (Or.inr (Or.inl ⟨rfl, rfl⟩))) (fun i z h => hm _ (am_al_in h))
theorem lX8_missOf_58 : GX8_missOf.1 58 = some (8, 8) := rfl
theorem lX8_missOf_176 : GX8_missOf.1 176 = some (4, 0) := rfl
theorem lX8_missOf_65 : GX8_missOf.1 65 = some (8, 9) := rfl
theorem lX8_missOf_14 : GX8_missOf.1 14 = some (8, 0) := rfl
theorem lX8_missOf_198 : GX8_missOf.1 198 = some (1, 0) := rfl
theorem lX8_missOf_201 : GX8_missOf.1 201 = some (1, 1) := rfl
theorem lX8_missOf_204 : GX8_missOf.2.2.2 204 = some (some 2, 3, fX2_placeOf) := rfl
theorem lX8_missOf_18 : GX8_missOf.1 18 = some (8, 1) := rfl
noncomputable def MX8_starToDrop : List (Nat × am_M) := [(208, (some 4, 1, fX4_holds)), (211, (some 8, 2, fX8_missOf))]
noncomputable def GX8_starToDrop : am_G := (am_al FX8, am_al KX8, am_al SX8, am_al MX8_starToDrop)
noncomputable def fX8_starToDrop : List Value → am_H → am_R := am_fn 0 GX8_starToDrop cX8_starToDrop 8
theorem kX8_starToDrop (l : Launch) (D : va_G) (ad : Nat → Nat) (cA : Nat → ClassId) (A : Nat → Prop) (hlay : am_lays) : am_Met l D ad cA A yX8_starToDrop cX8_starToDrop 8 (some .int) { frames := 3, cells := 0, slots := 0, locals := 83 } fX8_starToDrop := by
  have hm : ∀ e ∈ MX8_starToDrop, am_cc l D ad cA A yX8_starToDrop.cls { frames := 3, cells := 0, slots := 0, locals := 83 } e.1 e.2 := List.forall_mem_cons.mpr ⟨Or.inl ⟨yX4_holds, cX4_holds, 2, (some .boolean), { frames := 0, cells := 0, slots := 0, locals := 0 }, fX4_holds, 1, 4, TX4, 3, rfl, kX4_holds l D ad cA A hlay, ⟨wd_545, wd_61, wd_555, by decide +kernel⟩, wd_543, wd_544, rfl, by decide, rfl, rfl, by decide, by decide⟩, List.forall_mem_cons.mpr ⟨Or.inl ⟨yX8_missOf, cX8_missOf, 8, (some .long), { frames := 2, cells := 0, slots := 0, locals := 56 }, fX8_missOf, 2, 8, TX8, 11, rfl, kX8_missOf l D ad cA A hlay, ⟨wd_571, wd_55, wd_568, by decide +kernel⟩, wd_570, wd_13, rfl, by decide, rfl, rfl, by decide, by decide⟩, fun _ h => absurd h List.not_mem_nil⟩⟩
  exact am_meth (G := GX8_starToDrop) (rk := 0) (plainFor_of_name (by decide)) hlay (fun i z h => okF_X8 _ (am_al_in h)) (fun i z h => okK_X8 _ (am_al_in h)) (fun i z h => okS_X8 _ (am_al_in h)) (Or.inl ⟨rfl, rfl⟩) (fun i z h => hm _ (am_al_in h))
theorem lX8_starToDrop_37 : GX8_starToDrop.1 37 = some (8, 5) := rfl
theorem lX8_starToDrop_14 : GX8_starToDrop.1 14 = some (8, 0) := rfl
theorem lX8_starToDrop_215 : GX8_starToDrop.1 215 = some (1, 3) := rfl
theorem lX8_starToDrop_58 : GX8_starToDrop.1 58 = some (8, 8) := rfl
theorem lX8_starToDrop_208 : GX8_starToDrop.2.2.2 208 = some (some 4, 1, fX4_holds) := rfl
theorem lX8_starToDrop_211 : GX8_starToDrop.2.2.2 211 = some (some 8, 2, fX8_missOf) := rfl
noncomputable def MX8_clean : List (Nat × am_M) := [(173, (some 8, 1, fX8_pairUp)), (181, (some 8, 1, fX8_fitPairs)), (276, (some 8, 1, fX8_starToDrop)), (279, (some 4, 1, fX4_drop))]
noncomputable def GX8_clean : am_G := (am_al FX8, am_al KX8, am_al SX8, am_al MX8_clean)
noncomputable def fX8_clean : List Value → am_H → am_R := am_fn 3 GX8_clean cX8_clean 4
theorem kX8_clean (l : Launch) (D : va_G) (ad : Nat → Nat) (cA : Nat → ClassId) (A : Nat → Prop) (hlay : am_lays) : am_Met l D ad cA A yX8_clean cX8_clean 4 none { frames := 5, cells := 0, slots := 0, locals := 124 } fX8_clean := by
  have hm : ∀ e ∈ MX8_clean, am_cc l D ad cA A yX8_clean.cls { frames := 5, cells := 0, slots := 0, locals := 124 } e.1 e.2 := List.forall_mem_cons.mpr ⟨Or.inl ⟨yX8_pairUp, cX8_pairUp, 2, none, { frames := 4, cells := 0, slots := 0, locals := 103 }, fX8_pairUp, 1, 8, TX8, 11, rfl, kX8_pairUp l D ad cA A hlay, ⟨wd_533, wd_55, wd_530, by decide +kernel⟩, wd_532, wd_9, rfl, by decide, rfl, rfl, by decide, by decide⟩, List.forall_mem_cons.mpr ⟨Or.inl ⟨yX8_fitPairs, cX8_fitPairs, 4, (some .boolean), { frames := 1, cells := 0, slots := 0, locals := 29 }, fX8_fitPairs, 1, 8, TX8, 11, rfl, kX8_fitPairs l D ad cA A hlay, ⟨wd_550, wd_55, wd_547, by decide +kernel⟩, wd_549, wd_11, rfl, by decide, rfl, rfl, by decide, by decide⟩, List.forall_mem_cons.mpr ⟨Or.inl ⟨yX8_starToDrop, cX8_starToDrop, 8, (some .int), { frames := 3, cells := 0, slots := 0, locals := 83 }, fX8_starToDrop, 1, 8, TX8, 11, rfl, kX8_starToDrop l D ad cA A hlay, ⟨wd_567, wd_55, wd_564, by decide +kernel⟩, wd_566, wd_12, rfl, by decide, rfl, rfl, by decide, by decide⟩, List.forall_mem_cons.mpr ⟨Or.inl ⟨yX4_drop, cX4_drop, 2, none, { frames := 1, cells := 0, slots := 0, locals := 21 }, fX4_drop, 1, 4, TX4, 3, rfl, kX4_drop l D ad cA A hlay, ⟨wd_583, wd_61, wd_580, by decide +kernel⟩, wd_581, wd_582, rfl, by decide, rfl, rfl, by decide, by decide⟩, fun _ h => absurd h List.not_mem_nil⟩⟩⟩⟩
  exact am_meth (G := GX8_clean) (rk := 3) (plainFor_of_name (by decide)) hlay (fun i z h => okF_X8 _ (am_al_in h)) (fun i z h => okK_X8 _ (am_al_in h)) (fun i z h => okS_X8 _ (am_al_in h)) (Or.inr (Or.inr (Or.inr ⟨rfl, rfl⟩))) (fun i z h => hm _ (am_al_in h))
theorem lX8_clean_173 : GX8_clean.2.2.2 173 = some (some 8, 1, fX8_pairUp) := rfl
theorem lX8_clean_58 : GX8_clean.1 58 = some (8, 8) := rfl
theorem lX8_clean_262 : GX8_clean.1 262 = some (4, 2) := rfl
theorem lX8_clean_181 : GX8_clean.2.2.2 181 = some (some 8, 1, fX8_fitPairs) := rfl
theorem lX8_clean_276 : GX8_clean.2.2.2 276 = some (some 8, 1, fX8_starToDrop) := rfl
theorem lX8_clean_279 : GX8_clean.2.2.2 279 = some (some 4, 1, fX4_drop) := rfl
noncomputable def MX8_match : List (Nat × am_M) := [(88, (none, 1, fX8_isPlate)), (92, (some 1, 1, fX1_has)), (169, (some 8, 1, fX8_clean)), (173, (some 8, 1, fX8_pairUp))]
noncomputable def GX8_match : am_G := (am_al FX8, am_al KX8, am_al SX8, am_al MX8_match)
noncomputable def fX8_match : List Value → am_H → am_R := am_fn 0 GX8_match cX8_match 4
theorem kX8_match (l : Launch) (D : va_G) (ad : Nat → Nat) (cA : Nat → ClassId) (A : Nat → Prop) (hlay : am_lays) : am_Met l D ad cA A yX8_match cX8_match 4 (some .int) { frames := 6, cells := 0, slots := 0, locals := 147 } fX8_match := by
  have hm : ∀ e ∈ MX8_match, am_cc l D ad cA A yX8_match.cls { frames := 6, cells := 0, slots := 0, locals := 147 } e.1 e.2 := List.forall_mem_cons.mpr ⟨Or.inr (Or.inl ⟨yX8_isPlate, cX8_isPlate, 1, (some .boolean), { frames := 0, cells := 0, slots := 0, locals := 0 }, fX8_isPlate, 1, rfl, kX8_isPlate l D ad cA A hlay, ⟨wd_391, wd_55, wd_389, by decide +kernel⟩, wd_390, rfl, rfl, by decide, by decide⟩), List.forall_mem_cons.mpr ⟨Or.inl ⟨yX1_has, cX1_has, 2, (some .boolean), { frames := 0, cells := 0, slots := 0, locals := 0 }, fX1_has, 1, 1, TX1, 4, rfl, kX1_has l D ad cA A hlay, ⟨wd_403, wd_56, wd_400, by decide +kernel⟩, wd_401, wd_402, rfl, by decide, rfl, rfl, by decide, by decide⟩, List.forall_mem_cons.mpr ⟨Or.inl ⟨yX8_clean, cX8_clean, 4, none, { frames := 5, cells := 0, slots := 0, locals := 124 }, fX8_clean, 1, 8, TX8, 11, rfl, kX8_clean l D ad cA A hlay, ⟨wd_529, wd_55, wd_526, by decide +kernel⟩, wd_528, wd_8, rfl, by decide, rfl, rfl, by decide, by decide⟩, List.forall_mem_cons.mpr ⟨Or.inl ⟨yX8_pairUp, cX8_pairUp, 2, none, { frames := 4, cells := 0, slots := 0, locals := 103 }, fX8_pairUp, 1, 8, TX8, 11, rfl, kX8_pairUp l D ad cA A hlay, ⟨wd_533, wd_55, wd_530, by decide +kernel⟩, wd_532, wd_9, rfl, by decide, rfl, rfl, by decide, by decide⟩, fun _ h => absurd h List.not_mem_nil⟩⟩⟩⟩
  exact am_meth (G := GX8_match) (rk := 0) (plainFor_of_name (by decide)) hlay (fun i z h => okF_X8 _ (am_al_in h)) (fun i z h => okK_X8 _ (am_al_in h)) (fun i z h => okS_X8 _ (am_al_in h)) (Or.inl ⟨rfl, rfl⟩) (fun i z h => hm _ (am_al_in h))
theorem lX8_match_88 : GX8_match.2.2.2 88 = some (none, 1, fX8_isPlate) := rfl
theorem lX8_match_14 : GX8_match.1 14 = some (8, 0) := rfl
theorem lX8_match_92 : GX8_match.2.2.2 92 = some (some 1, 1, fX1_has) := rfl
theorem lX8_match_169 : GX8_match.2.2.2 169 = some (some 8, 1, fX8_clean) := rfl
theorem lX8_match_173 : GX8_match.2.2.2 173 = some (some 8, 1, fX8_pairUp) := rfl
theorem lX8_match_58 : GX8_match.1 58 = some (8, 8) := rfl
theorem lX8_match_176 : GX8_match.1 176 = some (4, 0) := rfl
noncomputable def MX8_commonDivisor : List (Nat × am_M) := []
noncomputable def GX8_commonDivisor : am_G := (am_al FX8, am_al KX8, am_al SX8, am_al MX8_commonDivisor)
noncomputable def fX8_commonDivisor : List Value → am_H → am_R := am_fn 2 GX8_commonDivisor cX8_commonDivisor 11
theorem kX8_commonDivisor (l : Launch) (D : va_G) (ad : Nat → Nat) (cA : Nat → ClassId) (A : Nat → Prop) (hlay : am_lays) : am_Met l D ad cA A yX8_commonDivisor cX8_commonDivisor 11 (some .long) { frames := 0, cells := 0, slots := 0, locals := 0 } fX8_commonDivisor := by
  have hm : ∀ e ∈ MX8_commonDivisor, am_cc l D ad cA A yX8_commonDivisor.cls { frames := 0, cells := 0, slots := 0, locals := 0 } e.1 e.2 := fun _ h => absurd h List.not_mem_nil
  exact am_meth (G := GX8_commonDivisor) (rk := 2) (plainFor_of_name (by decide)) hlay (fun i z h => okF_X8 _ (am_al_in h)) (fun i z h => okK_X8 _ (am_al_in h)) (fun i z h => okS_X8 _ (am_al_in h)) (Or.inr (Or.inr (Or.inl ⟨rfl, rfl⟩))) (fun i z h => hm _ (am_al_in h))
noncomputable def MX8_fit : List (Nat × am_M) := [(88, (none, 1, fX8_isPlate)), (76, (none, 3, fX8_isWithin)), (169, (some 8, 1, fX8_clean)), (181, (some 8, 1, fX8_fitPairs)), (117, (none, 1, fJ9_abs_067f4)), (194, (none, 2, fX8_commonDivisor))]
noncomputable def GX8_fit : am_G := (am_al FX8, am_al KX8, am_al SX8, am_al MX8_fit)
noncomputable def fX8_fit : List Value → am_H → am_R := am_fn 2 GX8_fit cX8_fit 8
theorem kX8_fit (l : Launch) (D : va_G) (ad : Nat → Nat) (cA : Nat → ClassId) (A : Nat → Prop) (hlay : am_lays) : am_Met l D ad cA A yX8_fit cX8_fit 8 (some .long) { frames := 6, cells := 0, slots := 0, locals := 147 } fX8_fit := by
  have hm : ∀ e ∈ MX8_fit, am_cc l D ad cA A yX8_fit.cls { frames := 6, cells := 0, slots := 0, locals := 147 } e.1 e.2 := List.forall_mem_cons.mpr ⟨Or.inr (Or.inl ⟨yX8_isPlate, cX8_isPlate, 1, (some .boolean), { frames := 0, cells := 0, slots := 0, locals := 0 }, fX8_isPlate, 1, rfl, kX8_isPlate l D ad cA A hlay, ⟨wd_391, wd_55, wd_389, by decide +kernel⟩, wd_390, rfl, rfl, by decide, by decide⟩), List.forall_mem_cons.mpr ⟨Or.inr (Or.inl ⟨yX8_isWithin, cX8_isWithin, 3, (some .boolean), { frames := 0, cells := 0, slots := 0, locals := 0 }, fX8_isWithin, 3, rfl, kX8_isWithin l D ad cA A hlay, ⟨wd_368, wd_55, wd_366, by decide +kernel⟩, wd_367, rfl, rfl, by decide, by decide⟩), List.forall_mem_cons.mpr ⟨Or.inl ⟨yX8_clean, cX8_clean, 4, none, { frames := 5, cells := 0, slots := 0, locals := 124 }, fX8_clean, 1, 8, TX8, 11, rfl, kX8_clean l D ad cA A hlay, ⟨wd_529, wd_55, wd_526, by decide +kernel⟩, wd_528, wd_8, rfl, by decide, rfl, rfl, by decide, by decide⟩, List.forall_mem_cons.mpr ⟨Or.inl ⟨yX8_fitPairs, cX8_fitPairs, 4, (some .boolean), { frames := 1, cells := 0, slots := 0, locals := 29 }, fX8_fitPairs, 1, 8, TX8, 11, rfl, kX8_fitPairs l D ad cA A hlay, ⟨wd_550, wd_55, wd_547, by decide +kernel⟩, wd_549, wd_11, rfl, by decide, rfl, rfl, by decide, by decide⟩, List.forall_mem_cons.mpr ⟨Or.inr (Or.inl ⟨yJ9_abs_067f4, cJ9_abs_067f4, 2, (some .long), { frames := 0, cells := 0, slots := 0, locals := 0 }, fJ9_abs_067f4, 1, rfl, kJ9_abs_067f4 l D ad cA A hlay, ⟨wd_439, wd_65, wd_437, by decide +kernel⟩, wd_438, rfl, rfl, by decide, by decide⟩), List.forall_mem_cons.mpr ⟨Or.inr (Or.inl ⟨yX8_commonDivisor, cX8_commonDivisor, 11, (some .long), { frames := 0, cells := 0, slots := 0, locals := 0 }, fX8_commonDivisor, 2, rfl, kX8_commonDivisor l D ad cA A hlay, ⟨wd_591, wd_55, wd_589, by decide +kernel⟩, wd_590, rfl, rfl, by decide, by decide⟩), fun _ h => absurd h List.not_mem_nil⟩⟩⟩⟩⟩⟩
  exact am_meth (G := GX8_fit) (rk := 2) (plainFor_of_name (by decide)) hlay (fun i z h => okF_X8 _ (am_al_in h)) (fun i z h => okK_X8 _ (am_al_in h)) (fun i z h => okS_X8 _ (am_al_in h)) (Or.inr (Or.inr (Or.inl ⟨rfl, rfl⟩))) (fun i z h => hm _ (am_al_in h))
theorem lX8_fit_88 : GX8_fit.2.2.2 88 = some (none, 1, fX8_isPlate) := rfl
theorem lX8_fit_76 : GX8_fit.2.2.2 76 = some (none, 3, fX8_isWithin) := rfl
theorem lX8_fit_179 : GX8_fit.2.1 179 = some (.long (-9223372036854775808)) := rfl
theorem lX8_fit_169 : GX8_fit.2.2.2 169 = some (some 8, 1, fX8_clean) := rfl
theorem lX8_fit_181 : GX8_fit.2.2.2 181 = some (some 8, 1, fX8_fitPairs) := rfl
theorem lX8_fit_65 : GX8_fit.1 65 = some (8, 9) := rfl
theorem lX8_fit_184 : GX8_fit.1 184 = some (2, 9) := rfl
theorem lX8_fit_188 : GX8_fit.1 188 = some (2, 10) := rfl
theorem lX8_fit_117 : GX8_fit.2.2.2 117 = some (none, 1, fJ9_abs_067f4) := rfl
theorem lX8_fit_191 : GX8_fit.1 191 = some (2, 11) := rfl
theorem lX8_fit_194 : GX8_fit.2.2.2 194 = some (none, 2, fX8_commonDivisor) := rfl
noncomputable def MX8_laid : List (Nat × am_M) := [(88, (none, 1, fX8_isPlate)), (92, (some 1, 1, fX1_has)), (76, (none, 3, fX8_isWithin)), (169, (some 8, 1, fX8_clean)), (181, (some 8, 1, fX8_fitPairs)), (204, (some 2, 3, fX2_placeOf))]
noncomputable def GX8_laid : am_G := (am_al FX8, am_al KX8, am_al SX8, am_al MX8_laid)
noncomputable def fX8_laid : List Value → am_H → am_R := am_fn 2 GX8_laid cX8_laid 4
theorem kX8_laid (l : Launch) (D : va_G) (ad : Nat → Nat) (cA : Nat → ClassId) (A : Nat → Prop) (hlay : am_lays) : am_Met l D ad cA A yX8_laid cX8_laid 4 (some .long) { frames := 6, cells := 0, slots := 0, locals := 147 } fX8_laid := by
  have hm : ∀ e ∈ MX8_laid, am_cc l D ad cA A yX8_laid.cls { frames := 6, cells := 0, slots := 0, locals := 147 } e.1 e.2 := List.forall_mem_cons.mpr ⟨Or.inr (Or.inl ⟨yX8_isPlate, cX8_isPlate, 1, (some .boolean), { frames := 0, cells := 0, slots := 0, locals := 0 }, fX8_isPlate, 1, rfl, kX8_isPlate l D ad cA A hlay, ⟨wd_391, wd_55, wd_389, by decide +kernel⟩, wd_390, rfl, rfl, by decide, by decide⟩), List.forall_mem_cons.mpr ⟨Or.inl ⟨yX1_has, cX1_has, 2, (some .boolean), { frames := 0, cells := 0, slots := 0, locals := 0 }, fX1_has, 1, 1, TX1, 4, rfl, kX1_has l D ad cA A hlay, ⟨wd_403, wd_56, wd_400, by decide +kernel⟩, wd_401, wd_402, rfl, by decide, rfl, rfl, by decide, by decide⟩, List.forall_mem_cons.mpr ⟨Or.inr (Or.inl ⟨yX8_isWithin, cX8_isWithin, 3, (some .boolean), { frames := 0, cells := 0, slots := 0, locals := 0 }, fX8_isWithin, 3, rfl, kX8_isWithin l D ad cA A hlay, ⟨wd_368, wd_55, wd_366, by decide +kernel⟩, wd_367, rfl, rfl, by decide, by decide⟩), List.forall_mem_cons.mpr ⟨Or.inl ⟨yX8_clean, cX8_clean, 4, none, { frames := 5, cells := 0, slots := 0, locals := 124 }, fX8_clean, 1, 8, TX8, 11, rfl, kX8_clean l D ad cA A hlay, ⟨wd_529, wd_55, wd_526, by decide +kernel⟩, wd_528, wd_8, rfl, by decide, rfl, rfl, by decide, by decide⟩, List.forall_mem_cons.mpr ⟨Or.inl ⟨yX8_fitPairs, cX8_fitPairs, 4, (some .boolean), { frames := 1, cells := 0, slots := 0, locals := 29 }, fX8_fitPairs, 1, 8, TX8, 11, rfl, kX8_fitPairs l D ad cA A hlay, ⟨wd_550, wd_55, wd_547, by decide +kernel⟩, wd_549, wd_11, rfl, by decide, rfl, rfl, by decide, by decide⟩, List.forall_mem_cons.mpr ⟨Or.inl ⟨yX2_placeOf, cX2_placeOf, 12, (some .long), { frames := 1, cells := 0, slots := 0, locals := 25 }, fX2_placeOf, 3, 2, TX2, 12, rfl, kX2_placeOf l D ad cA A hlay, ⟨wd_575, wd_62, wd_572, by decide +kernel⟩, wd_573, wd_574, rfl, by decide, rfl, rfl, by decide, by decide⟩, fun _ h => absurd h List.not_mem_nil⟩⟩⟩⟩⟩⟩
  exact am_meth (G := GX8_laid) (rk := 2) (plainFor_of_name (by decide)) hlay (fun i z h => okF_X8 _ (am_al_in h)) (fun i z h => okK_X8 _ (am_al_in h)) (fun i z h => okS_X8 _ (am_al_in h)) (Or.inr (Or.inr (Or.inl ⟨rfl, rfl⟩))) (fun i z h => hm _ (am_al_in h))
theorem lX8_laid_88 : GX8_laid.2.2.2 88 = some (none, 1, fX8_isPlate) := rfl
theorem lX8_laid_14 : GX8_laid.1 14 = some (8, 0) := rfl
theorem lX8_laid_92 : GX8_laid.2.2.2 92 = some (some 1, 1, fX1_has) := rfl
theorem lX8_laid_76 : GX8_laid.2.2.2 76 = some (none, 3, fX8_isWithin) := rfl
theorem lX8_laid_179 : GX8_laid.2.1 179 = some (.long (-9223372036854775808)) := rfl
theorem lX8_laid_169 : GX8_laid.2.2.2 169 = some (some 8, 1, fX8_clean) := rfl
theorem lX8_laid_181 : GX8_laid.2.2.2 181 = some (some 8, 1, fX8_fitPairs) := rfl
theorem lX8_laid_65 : GX8_laid.1 65 = some (8, 9) := rfl
theorem lX8_laid_198 : GX8_laid.1 198 = some (1, 0) := rfl
theorem lX8_laid_201 : GX8_laid.1 201 = some (1, 1) := rfl
theorem lX8_laid_204 : GX8_laid.2.2.2 204 = some (some 2, 3, fX2_placeOf) := rfl
noncomputable def MX8_off : List (Nat × am_M) := [(88, (none, 1, fX8_isPlate)), (92, (some 1, 1, fX1_has)), (169, (some 8, 1, fX8_clean)), (208, (some 4, 1, fX4_holds)), (181, (some 8, 1, fX8_fitPairs)), (211, (some 8, 2, fX8_missOf))]
noncomputable def GX8_off : am_G := (am_al FX8, am_al KX8, am_al SX8, am_al MX8_off)
noncomputable def fX8_off : List Value → am_H → am_R := am_fn 2 GX8_off cX8_off 3
theorem kX8_off (l : Launch) (D : va_G) (ad : Nat → Nat) (cA : Nat → ClassId) (A : Nat → Prop) (hlay : am_lays) : am_Met l D ad cA A yX8_off cX8_off 3 (some .long) { frames := 6, cells := 0, slots := 0, locals := 147 } fX8_off := by
  have hm : ∀ e ∈ MX8_off, am_cc l D ad cA A yX8_off.cls { frames := 6, cells := 0, slots := 0, locals := 147 } e.1 e.2 := List.forall_mem_cons.mpr ⟨Or.inr (Or.inl ⟨yX8_isPlate, cX8_isPlate, 1, (some .boolean), { frames := 0, cells := 0, slots := 0, locals := 0 }, fX8_isPlate, 1, rfl, kX8_isPlate l D ad cA A hlay, ⟨wd_391, wd_55, wd_389, by decide +kernel⟩, wd_390, rfl, rfl, by decide, by decide⟩), List.forall_mem_cons.mpr ⟨Or.inl ⟨yX1_has, cX1_has, 2, (some .boolean), { frames := 0, cells := 0, slots := 0, locals := 0 }, fX1_has, 1, 1, TX1, 4, rfl, kX1_has l D ad cA A hlay, ⟨wd_403, wd_56, wd_400, by decide +kernel⟩, wd_401, wd_402, rfl, by decide, rfl, rfl, by decide, by decide⟩, List.forall_mem_cons.mpr ⟨Or.inl ⟨yX8_clean, cX8_clean, 4, none, { frames := 5, cells := 0, slots := 0, locals := 124 }, fX8_clean, 1, 8, TX8, 11, rfl, kX8_clean l D ad cA A hlay, ⟨wd_529, wd_55, wd_526, by decide +kernel⟩, wd_528, wd_8, rfl, by decide, rfl, rfl, by decide, by decide⟩, List.forall_mem_cons.mpr ⟨Or.inl ⟨yX4_holds, cX4_holds, 2, (some .boolean), { frames := 0, cells := 0, slots := 0, locals := 0 }, fX4_holds, 1, 4, TX4, 3, rfl, kX4_holds l D ad cA A hlay, ⟨wd_545, wd_61, wd_555, by decide +kernel⟩, wd_543, wd_544, rfl, by decide, rfl, rfl, by decide, by decide⟩, List.forall_mem_cons.mpr ⟨Or.inl ⟨yX8_fitPairs, cX8_fitPairs, 4, (some .boolean), { frames := 1, cells := 0, slots := 0, locals := 29 }, fX8_fitPairs, 1, 8, TX8, 11, rfl, kX8_fitPairs l D ad cA A hlay, ⟨wd_550, wd_55, wd_547, by decide +kernel⟩, wd_549, wd_11, rfl, by decide, rfl, rfl, by decide, by decide⟩, List.forall_mem_cons.mpr ⟨Or.inl ⟨yX8_missOf, cX8_missOf, 8, (some .long), { frames := 2, cells := 0, slots := 0, locals := 56 }, fX8_missOf, 2, 8, TX8, 11, rfl, kX8_missOf l D ad cA A hlay, ⟨wd_571, wd_55, wd_568, by decide +kernel⟩, wd_570, wd_13, rfl, by decide, rfl, rfl, by decide, by decide⟩, fun _ h => absurd h List.not_mem_nil⟩⟩⟩⟩⟩⟩
  exact am_meth (G := GX8_off) (rk := 2) (plainFor_of_name (by decide)) hlay (fun i z h => okF_X8 _ (am_al_in h)) (fun i z h => okK_X8 _ (am_al_in h)) (fun i z h => okS_X8 _ (am_al_in h)) (Or.inr (Or.inr (Or.inl ⟨rfl, rfl⟩))) (fun i z h => hm _ (am_al_in h))
theorem lX8_off_88 : GX8_off.2.2.2 88 = some (none, 1, fX8_isPlate) := rfl
theorem lX8_off_14 : GX8_off.1 14 = some (8, 0) := rfl
theorem lX8_off_92 : GX8_off.2.2.2 92 = some (some 1, 1, fX1_has) := rfl
theorem lX8_off_179 : GX8_off.2.1 179 = some (.long (-9223372036854775808)) := rfl
theorem lX8_off_169 : GX8_off.2.2.2 169 = some (some 8, 1, fX8_clean) := rfl
theorem lX8_off_58 : GX8_off.1 58 = some (8, 8) := rfl
theorem lX8_off_208 : GX8_off.2.2.2 208 = some (some 4, 1, fX4_holds) := rfl
theorem lX8_off_181 : GX8_off.2.2.2 181 = some (some 8, 1, fX8_fitPairs) := rfl
theorem lX8_off_211 : GX8_off.2.2.2 211 = some (some 8, 2, fX8_missOf) := rfl
noncomputable def MX8_lightOf : List (Nat × am_M) := []
noncomputable def GX8_lightOf : am_G := (am_al FX8, am_al KX8, am_al SX8, am_al MX8_lightOf)
noncomputable def fX8_lightOf : List Value → am_H → am_R := am_fn 0 GX8_lightOf cX8_lightOf 3
theorem kX8_lightOf (l : Launch) (D : va_G) (ad : Nat → Nat) (cA : Nat → ClassId) (A : Nat → Prop) (hlay : am_lays) : am_Met l D ad cA A yX8_lightOf cX8_lightOf 3 (some .int) { frames := 0, cells := 0, slots := 0, locals := 0 } fX8_lightOf := by
  have hm : ∀ e ∈ MX8_lightOf, am_cc l D ad cA A yX8_lightOf.cls { frames := 0, cells := 0, slots := 0, locals := 0 } e.1 e.2 := fun _ h => absurd h List.not_mem_nil
  exact am_meth (G := GX8_lightOf) (rk := 0) (plainFor_of_name (by decide)) hlay (fun i z h => okF_X8 _ (am_al_in h)) (fun i z h => okK_X8 _ (am_al_in h)) (fun i z h => okS_X8 _ (am_al_in h)) (Or.inl ⟨rfl, rfl⟩) (fun i z h => hm _ (am_al_in h))
theorem lX8_lightOf_18 : GX8_lightOf.1 18 = some (8, 1) := rfl
theorem lX8_lightOf_95 : GX8_lightOf.1 95 = some (1, 2) := rfl
theorem lX8_lightOf_58 : GX8_lightOf.1 58 = some (8, 8) := rfl
theorem lX8_lightOf_176 : GX8_lightOf.1 176 = some (4, 0) := rfl
noncomputable def MX8_isRankedWrong : List (Nat × am_M) := [(208, (some 4, 1, fX4_holds)), (295, (some 8, 2, fX8_lightOf))]
noncomputable def GX8_isRankedWrong : am_G := (am_al FX8, am_al KX8, am_al SX8, am_al MX8_isRankedWrong)
noncomputable def fX8_isRankedWrong : List Value → am_H → am_R := am_fn 1 GX8_isRankedWrong cX8_isRankedWrong 4
theorem kX8_isRankedWrong (l : Launch) (D : va_G) (ad : Nat → Nat) (cA : Nat → ClassId) (A : Nat → Prop) (hlay : am_lays) : am_Met l D ad cA A yX8_isRankedWrong cX8_isRankedWrong 4 (some .boolean) { frames := 1, cells := 0, slots := 0, locals := 22 } fX8_isRankedWrong := by
  have hm : ∀ e ∈ MX8_isRankedWrong, am_cc l D ad cA A yX8_isRankedWrong.cls { frames := 1, cells := 0, slots := 0, locals := 22 } e.1 e.2 := List.forall_mem_cons.mpr ⟨Or.inl ⟨yX4_holds, cX4_holds, 2, (some .boolean), { frames := 0, cells := 0, slots := 0, locals := 0 }, fX4_holds, 1, 4, TX4, 3, rfl, kX4_holds l D ad cA A hlay, ⟨wd_545, wd_61, wd_555, by decide +kernel⟩, wd_543, wd_544, rfl, by decide, rfl, rfl, by decide, by decide⟩, List.forall_mem_cons.mpr ⟨Or.inl ⟨yX8_lightOf, cX8_lightOf, 3, (some .int), { frames := 0, cells := 0, slots := 0, locals := 0 }, fX8_lightOf, 2, 8, TX8, 11, rfl, kX8_lightOf l D ad cA A hlay, ⟨wd_615, wd_55, wd_612, by decide +kernel⟩, wd_614, wd_16, rfl, by decide, rfl, rfl, by decide, by decide⟩, fun _ h => absurd h List.not_mem_nil⟩⟩
  exact am_meth (G := GX8_isRankedWrong) (rk := 1) (plainFor_of_name (by decide)) hlay (fun i z h => okF_X8 _ (am_al_in h)) (fun i z h => okK_X8 _ (am_al_in h)) (fun i z h => okS_X8 _ (am_al_in h)) (Or.inr (Or.inl ⟨rfl, rfl⟩)) (fun i z h => hm _ (am_al_in h))
theorem lX8_isRankedWrong_58 : GX8_isRankedWrong.1 58 = some (8, 8) := rfl
theorem lX8_isRankedWrong_208 : GX8_isRankedWrong.2.2.2 208 = some (some 4, 1, fX4_holds) := rfl
theorem lX8_isRankedWrong_14 : GX8_isRankedWrong.1 14 = some (8, 0) := rfl
theorem lX8_isRankedWrong_95 : GX8_isRankedWrong.1 95 = some (1, 2) := rfl
theorem lX8_isRankedWrong_295 : GX8_isRankedWrong.2.2.2 295 = some (some 8, 2, fX8_lightOf) := rfl
noncomputable def MX8_wrongWith : List (Nat × am_M) := [(292, (some 8, 3, fX8_isRankedWrong))]
noncomputable def GX8_wrongWith : am_G := (am_al FX8, am_al KX8, am_al SX8, am_al MX8_wrongWith)
noncomputable def fX8_wrongWith : List Value → am_H → am_R := am_fn 0 GX8_wrongWith cX8_wrongWith 5
theorem kX8_wrongWith (l : Launch) (D : va_G) (ad : Nat → Nat) (cA : Nat → ClassId) (A : Nat → Prop) (hlay : am_lays) : am_Met l D ad cA A yX8_wrongWith cX8_wrongWith 5 (some .int) { frames := 2, cells := 0, slots := 0, locals := 45 } fX8_wrongWith := by
  have hm : ∀ e ∈ MX8_wrongWith, am_cc l D ad cA A yX8_wrongWith.cls { frames := 2, cells := 0, slots := 0, locals := 45 } e.1 e.2 := List.forall_mem_cons.mpr ⟨Or.inl ⟨yX8_isRankedWrong, cX8_isRankedWrong, 4, (some .boolean), { frames := 1, cells := 0, slots := 0, locals := 22 }, fX8_isRankedWrong, 3, 8, TX8, 11, rfl, kX8_isRankedWrong l D ad cA A hlay, ⟨wd_611, wd_55, wd_608, by decide +kernel⟩, wd_610, wd_15, rfl, by decide, rfl, rfl, by decide, by decide⟩, fun _ h => absurd h List.not_mem_nil⟩
  exact am_meth (G := GX8_wrongWith) (rk := 0) (plainFor_of_name (by decide)) hlay (fun i z h => okF_X8 _ (am_al_in h)) (fun i z h => okK_X8 _ (am_al_in h)) (fun i z h => okS_X8 _ (am_al_in h)) (Or.inl ⟨rfl, rfl⟩) (fun i z h => hm _ (am_al_in h))
theorem lX8_wrongWith_14 : GX8_wrongWith.1 14 = some (8, 0) := rfl
theorem lX8_wrongWith_215 : GX8_wrongWith.1 215 = some (1, 3) := rfl
theorem lX8_wrongWith_292 : GX8_wrongWith.2.2.2 292 = some (some 8, 3, fX8_isRankedWrong) := rfl
noncomputable def MX8_wrong : List (Nat × am_M) := [(88, (none, 1, fX8_isPlate)), (76, (none, 3, fX8_isWithin)), (169, (some 8, 1, fX8_clean)), (218, (some 8, 2, fX8_wrongWith))]
noncomputable def GX8_wrong : am_G := (am_al FX8, am_al KX8, am_al SX8, am_al MX8_wrong)
noncomputable def fX8_wrong : List Value → am_H → am_R := am_fn 0 GX8_wrong cX8_wrong 8
theorem kX8_wrong (l : Launch) (D : va_G) (ad : Nat → Nat) (cA : Nat → ClassId) (A : Nat → Prop) (hlay : am_lays) : am_Met l D ad cA A yX8_wrong cX8_wrong 8 (some .int) { frames := 6, cells := 0, slots := 0, locals := 147 } fX8_wrong := by
  have hm : ∀ e ∈ MX8_wrong, am_cc l D ad cA A yX8_wrong.cls { frames := 6, cells := 0, slots := 0, locals := 147 } e.1 e.2 := List.forall_mem_cons.mpr ⟨Or.inr (Or.inl ⟨yX8_isPlate, cX8_isPlate, 1, (some .boolean), { frames := 0, cells := 0, slots := 0, locals := 0 }, fX8_isPlate, 1, rfl, kX8_isPlate l D ad cA A hlay, ⟨wd_391, wd_55, wd_389, by decide +kernel⟩, wd_390, rfl, rfl, by decide, by decide⟩), List.forall_mem_cons.mpr ⟨Or.inr (Or.inl ⟨yX8_isWithin, cX8_isWithin, 3, (some .boolean), { frames := 0, cells := 0, slots := 0, locals := 0 }, fX8_isWithin, 3, rfl, kX8_isWithin l D ad cA A hlay, ⟨wd_368, wd_55, wd_366, by decide +kernel⟩, wd_367, rfl, rfl, by decide, by decide⟩), List.forall_mem_cons.mpr ⟨Or.inl ⟨yX8_clean, cX8_clean, 4, none, { frames := 5, cells := 0, slots := 0, locals := 124 }, fX8_clean, 1, 8, TX8, 11, rfl, kX8_clean l D ad cA A hlay, ⟨wd_529, wd_55, wd_526, by decide +kernel⟩, wd_528, wd_8, rfl, by decide, rfl, rfl, by decide, by decide⟩, List.forall_mem_cons.mpr ⟨Or.inl ⟨yX8_wrongWith, cX8_wrongWith, 5, (some .int), { frames := 2, cells := 0, slots := 0, locals := 45 }, fX8_wrongWith, 2, 8, TX8, 11, rfl, kX8_wrongWith l D ad cA A hlay, ⟨wd_607, wd_55, wd_604, by decide +kernel⟩, wd_606, wd_14, rfl, by decide, rfl, rfl, by decide, by decide⟩, fun _ h => absurd h List.not_mem_nil⟩⟩⟩⟩
  exact am_meth (G := GX8_wrong) (rk := 0) (plainFor_of_name (by decide)) hlay (fun i z h => okF_X8 _ (am_al_in h)) (fun i z h => okK_X8 _ (am_al_in h)) (fun i z h => okS_X8 _ (am_al_in h)) (Or.inl ⟨rfl, rfl⟩) (fun i z h => hm _ (am_al_in h))
theorem lX8_wrong_88 : GX8_wrong.2.2.2 88 = some (none, 1, fX8_isPlate) := rfl
theorem lX8_wrong_76 : GX8_wrong.2.2.2 76 = some (none, 3, fX8_isWithin) := rfl
theorem lX8_wrong_169 : GX8_wrong.2.2.2 169 = some (some 8, 1, fX8_clean) := rfl
theorem lX8_wrong_14 : GX8_wrong.1 14 = some (8, 0) := rfl
theorem lX8_wrong_215 : GX8_wrong.1 215 = some (1, 3) := rfl
theorem lX8_wrong_218 : GX8_wrong.2.2.2 218 = some (some 8, 2, fX8_wrongWith) := rfl
noncomputable def MX8_isInBoth : List (Nat × am_M) := [(208, (some 4, 1, fX4_holds))]
noncomputable def GX8_isInBoth : am_G := (am_al FX8, am_al KX8, am_al SX8, am_al MX8_isInBoth)
noncomputable def fX8_isInBoth : List Value → am_H → am_R := am_fn 1 GX8_isInBoth cX8_isInBoth 2
theorem kX8_isInBoth (l : Launch) (D : va_G) (ad : Nat → Nat) (cA : Nat → ClassId) (A : Nat → Prop) (hlay : am_lays) : am_Met l D ad cA A yX8_isInBoth cX8_isInBoth 2 (some .boolean) { frames := 1, cells := 0, slots := 0, locals := 21 } fX8_isInBoth := by
  have hm : ∀ e ∈ MX8_isInBoth, am_cc l D ad cA A yX8_isInBoth.cls { frames := 1, cells := 0, slots := 0, locals := 21 } e.1 e.2 := List.forall_mem_cons.mpr ⟨Or.inl ⟨yX4_holds, cX4_holds, 2, (some .boolean), { frames := 0, cells := 0, slots := 0, locals := 0 }, fX4_holds, 1, 4, TX4, 3, rfl, kX4_holds l D ad cA A hlay, ⟨wd_545, wd_61, wd_555, by decide +kernel⟩, wd_543, wd_544, rfl, by decide, rfl, rfl, by decide, by decide⟩, fun _ h => absurd h List.not_mem_nil⟩
  exact am_meth (G := GX8_isInBoth) (rk := 1) (plainFor_of_name (by decide)) hlay (fun i z h => okF_X8 _ (am_al_in h)) (fun i z h => okK_X8 _ (am_al_in h)) (fun i z h => okS_X8 _ (am_al_in h)) (Or.inr (Or.inl ⟨rfl, rfl⟩)) (fun i z h => hm _ (am_al_in h))
theorem lX8_isInBoth_58 : GX8_isInBoth.1 58 = some (8, 8) := rfl
theorem lX8_isInBoth_208 : GX8_isInBoth.2.2.2 208 = some (some 4, 1, fX4_holds) := rfl
noncomputable def MX8_both : List (Nat × am_M) := [(169, (some 8, 1, fX8_clean)), (221, (some 8, 1, fX8_isInBoth))]
noncomputable def GX8_both : am_G := (am_al FX8, am_al KX8, am_al SX8, am_al MX8_both)
noncomputable def fX8_both : List Value → am_H → am_R := am_fn 0 GX8_both cX8_both 3
theorem kX8_both (l : Launch) (D : va_G) (ad : Nat → Nat) (cA : Nat → ClassId) (A : Nat → Prop) (hlay : am_lays) : am_Met l D ad cA A yX8_both cX8_both 3 (some .int) { frames := 6, cells := 0, slots := 0, locals := 147 } fX8_both := by
  have hm : ∀ e ∈ MX8_both, am_cc l D ad cA A yX8_both.cls { frames := 6, cells := 0, slots := 0, locals := 147 } e.1 e.2 := List.forall_mem_cons.mpr ⟨Or.inl ⟨yX8_clean, cX8_clean, 4, none, { frames := 5, cells := 0, slots := 0, locals := 124 }, fX8_clean, 1, 8, TX8, 11, rfl, kX8_clean l D ad cA A hlay, ⟨wd_529, wd_55, wd_526, by decide +kernel⟩, wd_528, wd_8, rfl, by decide, rfl, rfl, by decide, by decide⟩, List.forall_mem_cons.mpr ⟨Or.inl ⟨yX8_isInBoth, cX8_isInBoth, 2, (some .boolean), { frames := 1, cells := 0, slots := 0, locals := 21 }, fX8_isInBoth, 1, 8, TX8, 11, rfl, kX8_isInBoth l D ad cA A hlay, ⟨wd_623, wd_55, wd_620, by decide +kernel⟩, wd_622, wd_17, rfl, by decide, rfl, rfl, by decide, by decide⟩, fun _ h => absurd h List.not_mem_nil⟩⟩
  exact am_meth (G := GX8_both) (rk := 0) (plainFor_of_name (by decide)) hlay (fun i z h => okF_X8 _ (am_al_in h)) (fun i z h => okK_X8 _ (am_al_in h)) (fun i z h => okS_X8 _ (am_al_in h)) (Or.inl ⟨rfl, rfl⟩) (fun i z h => hm _ (am_al_in h))
theorem lX8_both_169 : GX8_both.2.2.2 169 = some (some 8, 1, fX8_clean) := rfl
theorem lX8_both_14 : GX8_both.1 14 = some (8, 0) := rfl
theorem lX8_both_215 : GX8_both.1 215 = some (1, 3) := rfl
theorem lX8_both_221 : GX8_both.2.2.2 221 = some (some 8, 1, fX8_isInBoth) := rfl
noncomputable def MX8_fitPlates : List (Nat × am_M) := [(282, (some 2, 0, fX2_start)), (221, (some 8, 1, fX8_isInBoth)), (285, (some 2, 4, fX2_take)), (289, (some 2, 0, fX2_solve))]
noncomputable def GX8_fitPlates : am_G := (am_al FX8, am_al KX8, am_al SX8, am_al MX8_fitPlates)
noncomputable def fX8_fitPlates : List Value → am_H → am_R := am_fn 1 GX8_fitPlates cX8_fitPlates 4
theorem kX8_fitPlates (l : Launch) (D : va_G) (ad : Nat → Nat) (cA : Nat → ClassId) (A : Nat → Prop) (hlay : am_lays) : am_Met l D ad cA A yX8_fitPlates cX8_fitPlates 4 (some .boolean) { frames := 2, cells := 0, slots := 0, locals := 42 } fX8_fitPlates := by
  have hm : ∀ e ∈ MX8_fitPlates, am_cc l D ad cA A yX8_fitPlates.cls { frames := 2, cells := 0, slots := 0, locals := 42 } e.1 e.2 := List.forall_mem_cons.mpr ⟨Or.inl ⟨yX2_start, cX2_start, 1, none, { frames := 0, cells := 0, slots := 0, locals := 0 }, fX2_start, 0, 2, TX2, 12, rfl, kX2_start l D ad cA A hlay, ⟨wd_554, wd_62, wd_551, by decide +kernel⟩, wd_552, wd_553, rfl, by decide, rfl, rfl, by decide, by decide⟩, List.forall_mem_cons.mpr ⟨Or.inl ⟨yX8_isInBoth, cX8_isInBoth, 2, (some .boolean), { frames := 1, cells := 0, slots := 0, locals := 21 }, fX8_isInBoth, 1, 8, TX8, 11, rfl, kX8_isInBoth l D ad cA A hlay, ⟨wd_623, wd_55, wd_620, by decide +kernel⟩, wd_622, wd_17, rfl, by decide, rfl, rfl, by decide, by decide⟩, List.forall_mem_cons.mpr ⟨Or.inl ⟨yX2_take, cX2_take, 5, none, { frames := 0, cells := 0, slots := 0, locals := 0 }, fX2_take, 4, 2, TX2, 12, rfl, kX2_take l D ad cA A hlay, ⟨wd_559, wd_62, wd_556, by decide +kernel⟩, wd_557, wd_558, rfl, by decide, rfl, rfl, by decide, by decide⟩, List.forall_mem_cons.mpr ⟨Or.inl ⟨yX2_solve, cX2_solve, 10, (some .boolean), { frames := 0, cells := 0, slots := 0, locals := 0 }, fX2_solve, 0, 2, TX2, 12, rfl, kX2_solve l D ad cA A hlay, ⟨wd_563, wd_62, wd_560, by decide +kernel⟩, wd_561, wd_562, rfl, by decide, rfl, rfl, by decide, by decide⟩, fun _ h => absurd h List.not_mem_nil⟩⟩⟩⟩
  exact am_meth (G := GX8_fitPlates) (rk := 1) (plainFor_of_name (by decide)) hlay (fun i z h => okF_X8 _ (am_al_in h)) (fun i z h => okK_X8 _ (am_al_in h)) (fun i z h => okS_X8 _ (am_al_in h)) (Or.inr (Or.inl ⟨rfl, rfl⟩)) (fun i z h => hm _ (am_al_in h))
theorem lX8_fitPlates_65 : GX8_fitPlates.1 65 = some (8, 9) := rfl
theorem lX8_fitPlates_282 : GX8_fitPlates.2.2.2 282 = some (some 2, 0, fX2_start) := rfl
theorem lX8_fitPlates_14 : GX8_fitPlates.1 14 = some (8, 0) := rfl
theorem lX8_fitPlates_215 : GX8_fitPlates.1 215 = some (1, 3) := rfl
theorem lX8_fitPlates_221 : GX8_fitPlates.2.2.2 221 = some (some 8, 1, fX8_isInBoth) := rfl
theorem lX8_fitPlates_58 : GX8_fitPlates.1 58 = some (8, 8) := rfl
theorem lX8_fitPlates_176 : GX8_fitPlates.1 176 = some (4, 0) := rfl
theorem lX8_fitPlates_18 : GX8_fitPlates.1 18 = some (8, 1) := rfl
theorem lX8_fitPlates_198 : GX8_fitPlates.1 198 = some (1, 0) := rfl
theorem lX8_fitPlates_201 : GX8_fitPlates.1 201 = some (1, 1) := rfl
theorem lX8_fitPlates_285 : GX8_fitPlates.2.2.2 285 = some (some 2, 4, fX2_take) := rfl
theorem lX8_fitPlates_289 : GX8_fitPlates.2.2.2 289 = some (some 2, 0, fX2_solve) := rfl
noncomputable def MX8_carried : List (Nat × am_M) := [(92, (some 1, 1, fX1_has)), (76, (none, 3, fX8_isWithin)), (169, (some 8, 1, fX8_clean)), (224, (some 8, 0, fX8_fitPlates)), (204, (some 2, 3, fX2_placeOf))]
noncomputable def GX8_carried : am_G := (am_al FX8, am_al KX8, am_al SX8, am_al MX8_carried)
noncomputable def fX8_carried : List Value → am_H → am_R := am_fn 2 GX8_carried cX8_carried 3
theorem kX8_carried (l : Launch) (D : va_G) (ad : Nat → Nat) (cA : Nat → ClassId) (A : Nat → Prop) (hlay : am_lays) : am_Met l D ad cA A yX8_carried cX8_carried 3 (some .long) { frames := 6, cells := 0, slots := 0, locals := 147 } fX8_carried := by
  have hm : ∀ e ∈ MX8_carried, am_cc l D ad cA A yX8_carried.cls { frames := 6, cells := 0, slots := 0, locals := 147 } e.1 e.2 := List.forall_mem_cons.mpr ⟨Or.inl ⟨yX1_has, cX1_has, 2, (some .boolean), { frames := 0, cells := 0, slots := 0, locals := 0 }, fX1_has, 1, 1, TX1, 4, rfl, kX1_has l D ad cA A hlay, ⟨wd_403, wd_56, wd_400, by decide +kernel⟩, wd_401, wd_402, rfl, by decide, rfl, rfl, by decide, by decide⟩, List.forall_mem_cons.mpr ⟨Or.inr (Or.inl ⟨yX8_isWithin, cX8_isWithin, 3, (some .boolean), { frames := 0, cells := 0, slots := 0, locals := 0 }, fX8_isWithin, 3, rfl, kX8_isWithin l D ad cA A hlay, ⟨wd_368, wd_55, wd_366, by decide +kernel⟩, wd_367, rfl, rfl, by decide, by decide⟩), List.forall_mem_cons.mpr ⟨Or.inl ⟨yX8_clean, cX8_clean, 4, none, { frames := 5, cells := 0, slots := 0, locals := 124 }, fX8_clean, 1, 8, TX8, 11, rfl, kX8_clean l D ad cA A hlay, ⟨wd_529, wd_55, wd_526, by decide +kernel⟩, wd_528, wd_8, rfl, by decide, rfl, rfl, by decide, by decide⟩, List.forall_mem_cons.mpr ⟨Or.inl ⟨yX8_fitPlates, cX8_fitPlates, 4, (some .boolean), { frames := 2, cells := 0, slots := 0, locals := 42 }, fX8_fitPlates, 0, 8, TX8, 11, rfl, kX8_fitPlates l D ad cA A hlay, ⟨wd_631, wd_55, wd_628, by decide +kernel⟩, wd_630, wd_18, rfl, by decide, rfl, rfl, by decide, by decide⟩, List.forall_mem_cons.mpr ⟨Or.inl ⟨yX2_placeOf, cX2_placeOf, 12, (some .long), { frames := 1, cells := 0, slots := 0, locals := 25 }, fX2_placeOf, 3, 2, TX2, 12, rfl, kX2_placeOf l D ad cA A hlay, ⟨wd_575, wd_62, wd_572, by decide +kernel⟩, wd_573, wd_574, rfl, by decide, rfl, rfl, by decide, by decide⟩, fun _ h => absurd h List.not_mem_nil⟩⟩⟩⟩⟩
  exact am_meth (G := GX8_carried) (rk := 2) (plainFor_of_name (by decide)) hlay (fun i z h => okF_X8 _ (am_al_in h)) (fun i z h => okK_X8 _ (am_al_in h)) (fun i z h => okS_X8 _ (am_al_in h)) (Or.inr (Or.inr (Or.inl ⟨rfl, rfl⟩))) (fun i z h => hm _ (am_al_in h))
theorem lX8_carried_18 : GX8_carried.1 18 = some (8, 1) := rfl
theorem lX8_carried_92 : GX8_carried.2.2.2 92 = some (some 1, 1, fX1_has) := rfl
theorem lX8_carried_76 : GX8_carried.2.2.2 76 = some (none, 3, fX8_isWithin) := rfl
theorem lX8_carried_179 : GX8_carried.2.1 179 = some (.long (-9223372036854775808)) := rfl
theorem lX8_carried_169 : GX8_carried.2.2.2 169 = some (some 8, 1, fX8_clean) := rfl
theorem lX8_carried_224 : GX8_carried.2.2.2 224 = some (some 8, 0, fX8_fitPlates) := rfl
theorem lX8_carried_65 : GX8_carried.1 65 = some (8, 9) := rfl
theorem lX8_carried_198 : GX8_carried.1 198 = some (1, 0) := rfl
theorem lX8_carried_201 : GX8_carried.1 201 = some (1, 1) := rfl
theorem lX8_carried_204 : GX8_carried.2.2.2 204 = some (some 2, 3, fX2_placeOf) := rfl
noncomputable def MX8_findMovers : List (Nat × am_M) := [(224, (some 8, 0, fX8_fitPlates)), (300, (some 3, 4, fX3_start)), (303, (some 3, 3, fX3_addNearest))]
noncomputable def GX8_findMovers : am_G := (am_al FX8, am_al KX8, am_al SX8, am_al MX8_findMovers)
noncomputable def fX8_findMovers : List Value → am_H → am_R := am_fn 3 GX8_findMovers cX8_findMovers 2
theorem kX8_findMovers (l : Launch) (D : va_G) (ad : Nat → Nat) (cA : Nat → ClassId) (A : Nat → Prop) (hlay : am_lays) : am_Met l D ad cA A yX8_findMovers cX8_findMovers 2 none { frames := 3, cells := 0, slots := 0, locals := 81 } fX8_findMovers := by
  have hm : ∀ e ∈ MX8_findMovers, am_cc l D ad cA A yX8_findMovers.cls { frames := 3, cells := 0, slots := 0, locals := 81 } e.1 e.2 := List.forall_mem_cons.mpr ⟨Or.inl ⟨yX8_fitPlates, cX8_fitPlates, 4, (some .boolean), { frames := 2, cells := 0, slots := 0, locals := 42 }, fX8_fitPlates, 0, 8, TX8, 11, rfl, kX8_fitPlates l D ad cA A hlay, ⟨wd_631, wd_55, wd_628, by decide +kernel⟩, wd_630, wd_18, rfl, by decide, rfl, rfl, by decide, by decide⟩, List.forall_mem_cons.mpr ⟨Or.inl ⟨yX3_start, cX3_start, 6, none, { frames := 2, cells := 0, slots := 0, locals := 56 }, fX3_start, 4, 3, TX3, 8, rfl, kX3_start l D ad cA A hlay, ⟨wd_643, wd_63, wd_640, by decide +kernel⟩, wd_641, wd_642, rfl, by decide, rfl, rfl, by decide, by decide⟩, List.forall_mem_cons.mpr ⟨Or.inl ⟨yX3_addNearest, cX3_addNearest, 12, (some .boolean), { frames := 1, cells := 0, slots := 0, locals := 27 }, fX3_addNearest, 3, 3, TX3, 8, rfl, kX3_addNearest l D ad cA A hlay, ⟨wd_648, wd_63, wd_645, by decide +kernel⟩, wd_646, wd_647, rfl, by decide, rfl, rfl, by decide, by decide⟩, fun _ h => absurd h List.not_mem_nil⟩⟩⟩
  exact am_meth (G := GX8_findMovers) (rk := 3) (plainFor_of_name (by decide)) hlay (fun i z h => okF_X8 _ (am_al_in h)) (fun i z h => okK_X8 _ (am_al_in h)) (fun i z h => okS_X8 _ (am_al_in h)) (Or.inr (Or.inr (Or.inr ⟨rfl, rfl⟩))) (fun i z h => hm _ (am_al_in h))
theorem lX8_findMovers_72 : GX8_findMovers.1 72 = some (8, 10) := rfl
theorem lX8_findMovers_231 : GX8_findMovers.1 231 = some (3, 3) := rfl
theorem lX8_findMovers_224 : GX8_findMovers.2.2.2 224 = some (some 8, 0, fX8_fitPlates) := rfl
theorem lX8_findMovers_18 : GX8_findMovers.1 18 = some (8, 1) := rfl
theorem lX8_findMovers_65 : GX8_findMovers.1 65 = some (8, 9) := rfl
theorem lX8_findMovers_58 : GX8_findMovers.1 58 = some (8, 8) := rfl
theorem lX8_findMovers_300 : GX8_findMovers.2.2.2 300 = some (some 3, 4, fX3_start) := rfl
theorem lX8_findMovers_215 : GX8_findMovers.1 215 = some (1, 3) := rfl
theorem lX8_findMovers_37 : GX8_findMovers.1 37 = some (8, 5) := rfl
theorem lX8_findMovers_303 : GX8_findMovers.2.2.2 303 = some (some 3, 3, fX3_addNearest) := rfl
noncomputable def MX8_mover : List (Nat × am_M) := [(76, (none, 3, fX8_isWithin)), (169, (some 8, 1, fX8_clean)), (228, (some 8, 0, fX8_findMovers))]
noncomputable def GX8_mover : am_G := (am_al FX8, am_al KX8, am_al SX8, am_al MX8_mover)
noncomputable def fX8_mover : List Value → am_H → am_R := am_fn 0 GX8_mover cX8_mover 3
theorem kX8_mover (l : Launch) (D : va_G) (ad : Nat → Nat) (cA : Nat → ClassId) (A : Nat → Prop) (hlay : am_lays) : am_Met l D ad cA A yX8_mover cX8_mover 3 (some .int) { frames := 6, cells := 0, slots := 0, locals := 147 } fX8_mover := by
  have hm : ∀ e ∈ MX8_mover, am_cc l D ad cA A yX8_mover.cls { frames := 6, cells := 0, slots := 0, locals := 147 } e.1 e.2 := List.forall_mem_cons.mpr ⟨Or.inr (Or.inl ⟨yX8_isWithin, cX8_isWithin, 3, (some .boolean), { frames := 0, cells := 0, slots := 0, locals := 0 }, fX8_isWithin, 3, rfl, kX8_isWithin l D ad cA A hlay, ⟨wd_368, wd_55, wd_366, by decide +kernel⟩, wd_367, rfl, rfl, by decide, by decide⟩), List.forall_mem_cons.mpr ⟨Or.inl ⟨yX8_clean, cX8_clean, 4, none, { frames := 5, cells := 0, slots := 0, locals := 124 }, fX8_clean, 1, 8, TX8, 11, rfl, kX8_clean l D ad cA A hlay, ⟨wd_529, wd_55, wd_526, by decide +kernel⟩, wd_528, wd_8, rfl, by decide, rfl, rfl, by decide, by decide⟩, List.forall_mem_cons.mpr ⟨Or.inl ⟨yX8_findMovers, cX8_findMovers, 2, none, { frames := 3, cells := 0, slots := 0, locals := 81 }, fX8_findMovers, 0, 8, TX8, 11, rfl, kX8_findMovers l D ad cA A hlay, ⟨wd_639, wd_55, wd_636, by decide +kernel⟩, wd_638, wd_19, rfl, by decide, rfl, rfl, by decide, by decide⟩, fun _ h => absurd h List.not_mem_nil⟩⟩⟩
  exact am_meth (G := GX8_mover) (rk := 0) (plainFor_of_name (by decide)) hlay (fun i z h => okF_X8 _ (am_al_in h)) (fun i z h => okK_X8 _ (am_al_in h)) (fun i z h => okS_X8 _ (am_al_in h)) (Or.inl ⟨rfl, rfl⟩) (fun i z h => hm _ (am_al_in h))
theorem lX8_mover_76 : GX8_mover.2.2.2 76 = some (none, 3, fX8_isWithin) := rfl
theorem lX8_mover_169 : GX8_mover.2.2.2 169 = some (some 8, 1, fX8_clean) := rfl
theorem lX8_mover_228 : GX8_mover.2.2.2 228 = some (some 8, 0, fX8_findMovers) := rfl
theorem lX8_mover_72 : GX8_mover.1 72 = some (8, 10) := rfl
theorem lX8_mover_231 : GX8_mover.1 231 = some (3, 3) := rfl
theorem lX8_mover_232 : GX8_mover.1 232 = some (3, 0) := rfl
theorem lX8_mover_235 : GX8_mover.1 235 = some (3, 1) := rfl
theorem lX8_mover_238 : GX8_mover.1 238 = some (3, 2) := rfl
noncomputable def MX8_isBlinking : List (Nat × am_M) := [(221, (some 8, 1, fX8_isInBoth)), (208, (some 4, 1, fX4_holds)), (295, (some 8, 2, fX8_lightOf)), (298, (none, 1, fJ9_abs_0f7a4))]
noncomputable def GX8_isBlinking : am_G := (am_al FX8, am_al KX8, am_al SX8, am_al MX8_isBlinking)
noncomputable def fX8_isBlinking : List Value → am_H → am_R := am_fn 1 GX8_isBlinking cX8_isBlinking 2
theorem kX8_isBlinking (l : Launch) (D : va_G) (ad : Nat → Nat) (cA : Nat → ClassId) (A : Nat → Prop) (hlay : am_lays) : am_Met l D ad cA A yX8_isBlinking cX8_isBlinking 2 (some .boolean) { frames := 2, cells := 0, slots := 0, locals := 42 } fX8_isBlinking := by
  have hm : ∀ e ∈ MX8_isBlinking, am_cc l D ad cA A yX8_isBlinking.cls { frames := 2, cells := 0, slots := 0, locals := 42 } e.1 e.2 := List.forall_mem_cons.mpr ⟨Or.inl ⟨yX8_isInBoth, cX8_isInBoth, 2, (some .boolean), { frames := 1, cells := 0, slots := 0, locals := 21 }, fX8_isInBoth, 1, 8, TX8, 11, rfl, kX8_isInBoth l D ad cA A hlay, ⟨wd_623, wd_55, wd_620, by decide +kernel⟩, wd_622, wd_17, rfl, by decide, rfl, rfl, by decide, by decide⟩, List.forall_mem_cons.mpr ⟨Or.inl ⟨yX4_holds, cX4_holds, 2, (some .boolean), { frames := 0, cells := 0, slots := 0, locals := 0 }, fX4_holds, 1, 4, TX4, 3, rfl, kX4_holds l D ad cA A hlay, ⟨wd_545, wd_61, wd_555, by decide +kernel⟩, wd_543, wd_544, rfl, by decide, rfl, rfl, by decide, by decide⟩, List.forall_mem_cons.mpr ⟨Or.inl ⟨yX8_lightOf, cX8_lightOf, 3, (some .int), { frames := 0, cells := 0, slots := 0, locals := 0 }, fX8_lightOf, 2, 8, TX8, 11, rfl, kX8_lightOf l D ad cA A hlay, ⟨wd_615, wd_55, wd_612, by decide +kernel⟩, wd_614, wd_16, rfl, by decide, rfl, rfl, by decide, by decide⟩, List.forall_mem_cons.mpr ⟨Or.inr (Or.inl ⟨yJ9_abs_0f7a4, cJ9_abs_0f7a4, 1, (some .int), { frames := 0, cells := 0, slots := 0, locals := 0 }, fJ9_abs_0f7a4, 1, rfl, kJ9_abs_0f7a4 l D ad cA A hlay, ⟨wd_509, wd_65, wd_665, by decide +kernel⟩, wd_508, rfl, rfl, by decide, by decide⟩), fun _ h => absurd h List.not_mem_nil⟩⟩⟩⟩
  exact am_meth (G := GX8_isBlinking) (rk := 1) (plainFor_of_name (by decide)) hlay (fun i z h => okF_X8 _ (am_al_in h)) (fun i z h => okK_X8 _ (am_al_in h)) (fun i z h => okS_X8 _ (am_al_in h)) (Or.inr (Or.inl ⟨rfl, rfl⟩)) (fun i z h => hm _ (am_al_in h))
theorem lX8_isBlinking_221 : GX8_isBlinking.2.2.2 221 = some (some 8, 1, fX8_isInBoth) := rfl
theorem lX8_isBlinking_58 : GX8_isBlinking.1 58 = some (8, 8) := rfl
theorem lX8_isBlinking_208 : GX8_isBlinking.2.2.2 208 = some (some 4, 1, fX4_holds) := rfl
theorem lX8_isBlinking_295 : GX8_isBlinking.2.2.2 295 = some (some 8, 2, fX8_lightOf) := rfl
theorem lX8_isBlinking_298 : GX8_isBlinking.2.2.2 298 = some (none, 1, fJ9_abs_0f7a4) := rfl
theorem lX8_isBlinking_37 : GX8_isBlinking.1 37 = some (8, 5) := rfl
noncomputable def MX8_blinks : List (Nat × am_M) := [(169, (some 8, 1, fX8_clean)), (241, (some 8, 1, fX8_isBlinking))]
noncomputable def GX8_blinks : am_G := (am_al FX8, am_al KX8, am_al SX8, am_al MX8_blinks)
noncomputable def fX8_blinks : List Value → am_H → am_R := am_fn 0 GX8_blinks cX8_blinks 3
theorem kX8_blinks (l : Launch) (D : va_G) (ad : Nat → Nat) (cA : Nat → ClassId) (A : Nat → Prop) (hlay : am_lays) : am_Met l D ad cA A yX8_blinks cX8_blinks 3 (some .int) { frames := 6, cells := 0, slots := 0, locals := 147 } fX8_blinks := by
  have hm : ∀ e ∈ MX8_blinks, am_cc l D ad cA A yX8_blinks.cls { frames := 6, cells := 0, slots := 0, locals := 147 } e.1 e.2 := List.forall_mem_cons.mpr ⟨Or.inl ⟨yX8_clean, cX8_clean, 4, none, { frames := 5, cells := 0, slots := 0, locals := 124 }, fX8_clean, 1, 8, TX8, 11, rfl, kX8_clean l D ad cA A hlay, ⟨wd_529, wd_55, wd_526, by decide +kernel⟩, wd_528, wd_8, rfl, by decide, rfl, rfl, by decide, by decide⟩, List.forall_mem_cons.mpr ⟨Or.inl ⟨yX8_isBlinking, cX8_isBlinking, 2, (some .boolean), { frames := 2, cells := 0, slots := 0, locals := 42 }, fX8_isBlinking, 1, 8, TX8, 11, rfl, kX8_isBlinking l D ad cA A hlay, ⟨wd_664, wd_55, wd_661, by decide +kernel⟩, wd_663, wd_22, rfl, by decide, rfl, rfl, by decide, by decide⟩, fun _ h => absurd h List.not_mem_nil⟩⟩
  exact am_meth (G := GX8_blinks) (rk := 0) (plainFor_of_name (by decide)) hlay (fun i z h => okF_X8 _ (am_al_in h)) (fun i z h => okK_X8 _ (am_al_in h)) (fun i z h => okS_X8 _ (am_al_in h)) (Or.inl ⟨rfl, rfl⟩) (fun i z h => hm _ (am_al_in h))
theorem lX8_blinks_169 : GX8_blinks.2.2.2 169 = some (some 8, 1, fX8_clean) := rfl
theorem lX8_blinks_14 : GX8_blinks.1 14 = some (8, 0) := rfl
theorem lX8_blinks_215 : GX8_blinks.1 215 = some (1, 3) := rfl
theorem lX8_blinks_241 : GX8_blinks.2.2.2 241 = some (some 8, 1, fX8_isBlinking) := rfl
noncomputable def MX8_keep : List (Nat × am_M) := [(88, (none, 1, fX8_isPlate)), (76, (none, 3, fX8_isWithin)), (244, (some 1, 1, fX1_copyFrom))]
noncomputable def GX8_keep : am_G := (am_al FX8, am_al KX8, am_al SX8, am_al MX8_keep)
noncomputable def fX8_keep : List Value → am_H → am_R := am_fn 0 GX8_keep cX8_keep 3
theorem kX8_keep (l : Launch) (D : va_G) (ad : Nat → Nat) (cA : Nat → ClassId) (A : Nat → Prop) (hlay : am_lays) : am_Met l D ad cA A yX8_keep cX8_keep 3 (some .int) { frames := 2, cells := 0, slots := 0, locals := 93 } fX8_keep := by
  have hm : ∀ e ∈ MX8_keep, am_cc l D ad cA A yX8_keep.cls { frames := 2, cells := 0, slots := 0, locals := 93 } e.1 e.2 := List.forall_mem_cons.mpr ⟨Or.inr (Or.inl ⟨yX8_isPlate, cX8_isPlate, 1, (some .boolean), { frames := 0, cells := 0, slots := 0, locals := 0 }, fX8_isPlate, 1, rfl, kX8_isPlate l D ad cA A hlay, ⟨wd_391, wd_55, wd_389, by decide +kernel⟩, wd_390, rfl, rfl, by decide, by decide⟩), List.forall_mem_cons.mpr ⟨Or.inr (Or.inl ⟨yX8_isWithin, cX8_isWithin, 3, (some .boolean), { frames := 0, cells := 0, slots := 0, locals := 0 }, fX8_isWithin, 3, rfl, kX8_isWithin l D ad cA A hlay, ⟨wd_368, wd_55, wd_366, by decide +kernel⟩, wd_367, rfl, rfl, by decide, by decide⟩), List.forall_mem_cons.mpr ⟨Or.inl ⟨yX1_copyFrom, cX1_copyFrom, 2, none, { frames := 1, cells := 0, slots := 0, locals := 72 }, fX1_copyFrom, 1, 1, TX1, 4, rfl, kX1_copyFrom l D ad cA A hlay, ⟨wd_673, wd_56, wd_670, by decide +kernel⟩, wd_671, wd_672, rfl, by decide, rfl, rfl, by decide, by decide⟩, fun _ h => absurd h List.not_mem_nil⟩⟩⟩
  exact am_meth (G := GX8_keep) (rk := 0) (plainFor_of_name (by decide)) hlay (fun i z h => okF_X8 _ (am_al_in h)) (fun i z h => okK_X8 _ (am_al_in h)) (fun i z h => okS_X8 _ (am_al_in h)) (Or.inl ⟨rfl, rfl⟩) (fun i z h => hm _ (am_al_in h))
theorem lX8_keep_88 : GX8_keep.2.2.2 88 = some (none, 1, fX8_isPlate) := rfl
theorem lX8_keep_76 : GX8_keep.2.2.2 76 = some (none, 3, fX8_isWithin) := rfl
theorem lX8_keep_22 : GX8_keep.1 22 = some (8, 2) := rfl
theorem lX8_keep_18 : GX8_keep.1 18 = some (8, 1) := rfl
theorem lX8_keep_244 : GX8_keep.2.2.2 244 = some (some 1, 1, fX1_copyFrom) := rfl
theorem lX8_keep_25 : GX8_keep.1 25 = some (8, 3) := rfl
theorem lX8_keep_215 : GX8_keep.1 215 = some (1, 3) := rfl
noncomputable def MX8_restore : List (Nat × am_M) := [(88, (none, 1, fX8_isPlate)), (76, (none, 3, fX8_isWithin)), (244, (some 1, 1, fX1_copyFrom))]
noncomputable def GX8_restore : am_G := (am_al FX8, am_al KX8, am_al SX8, am_al MX8_restore)
noncomputable def fX8_restore : List Value → am_H → am_R := am_fn 0 GX8_restore cX8_restore 3
theorem kX8_restore (l : Launch) (D : va_G) (ad : Nat → Nat) (cA : Nat → ClassId) (A : Nat → Prop) (hlay : am_lays) : am_Met l D ad cA A yX8_restore cX8_restore 3 (some .int) { frames := 2, cells := 0, slots := 0, locals := 93 } fX8_restore := by
  have hm : ∀ e ∈ MX8_restore, am_cc l D ad cA A yX8_restore.cls { frames := 2, cells := 0, slots := 0, locals := 93 } e.1 e.2 := List.forall_mem_cons.mpr ⟨Or.inr (Or.inl ⟨yX8_isPlate, cX8_isPlate, 1, (some .boolean), { frames := 0, cells := 0, slots := 0, locals := 0 }, fX8_isPlate, 1, rfl, kX8_isPlate l D ad cA A hlay, ⟨wd_391, wd_55, wd_389, by decide +kernel⟩, wd_390, rfl, rfl, by decide, by decide⟩), List.forall_mem_cons.mpr ⟨Or.inr (Or.inl ⟨yX8_isWithin, cX8_isWithin, 3, (some .boolean), { frames := 0, cells := 0, slots := 0, locals := 0 }, fX8_isWithin, 3, rfl, kX8_isWithin l D ad cA A hlay, ⟨wd_368, wd_55, wd_366, by decide +kernel⟩, wd_367, rfl, rfl, by decide, by decide⟩), List.forall_mem_cons.mpr ⟨Or.inl ⟨yX1_copyFrom, cX1_copyFrom, 2, none, { frames := 1, cells := 0, slots := 0, locals := 72 }, fX1_copyFrom, 1, 1, TX1, 4, rfl, kX1_copyFrom l D ad cA A hlay, ⟨wd_673, wd_56, wd_670, by decide +kernel⟩, wd_671, wd_672, rfl, by decide, rfl, rfl, by decide, by decide⟩, fun _ h => absurd h List.not_mem_nil⟩⟩⟩
  exact am_meth (G := GX8_restore) (rk := 0) (plainFor_of_name (by decide)) hlay (fun i z h => okF_X8 _ (am_al_in h)) (fun i z h => okK_X8 _ (am_al_in h)) (fun i z h => okS_X8 _ (am_al_in h)) (Or.inl ⟨rfl, rfl⟩) (fun i z h => hm _ (am_al_in h))
theorem lX8_restore_88 : GX8_restore.2.2.2 88 = some (none, 1, fX8_isPlate) := rfl
theorem lX8_restore_76 : GX8_restore.2.2.2 76 = some (none, 3, fX8_isWithin) := rfl
theorem lX8_restore_25 : GX8_restore.1 25 = some (8, 3) := rfl
theorem lX8_restore_18 : GX8_restore.1 18 = some (8, 1) := rfl
theorem lX8_restore_22 : GX8_restore.1 22 = some (8, 2) := rfl
theorem lX8_restore_244 : GX8_restore.2.2.2 244 = some (some 1, 1, fX1_copyFrom) := rfl
theorem lX8_restore_215 : GX8_restore.1 215 = some (1, 3) := rfl
noncomputable def MX8_tray : List (Nat × am_M) := [(76, (none, 3, fX8_isWithin)), (248, (some 7, 2, fX7_renew))]
noncomputable def GX8_tray : am_G := (am_al FX8, am_al KX8, am_al SX8, am_al MX8_tray)
noncomputable def fX8_tray : List Value → am_H → am_R := am_fn 0 GX8_tray cX8_tray 4
theorem kX8_tray (l : Launch) (D : va_G) (ad : Nat → Nat) (cA : Nat → ClassId) (A : Nat → Prop) (hlay : am_lays) : am_Met l D ad cA A yX8_tray cX8_tray 4 (some .int) { frames := 2, cells := 0, slots := 0, locals := 45 } fX8_tray := by
  have hm : ∀ e ∈ MX8_tray, am_cc l D ad cA A yX8_tray.cls { frames := 2, cells := 0, slots := 0, locals := 45 } e.1 e.2 := List.forall_mem_cons.mpr ⟨Or.inr (Or.inl ⟨yX8_isWithin, cX8_isWithin, 3, (some .boolean), { frames := 0, cells := 0, slots := 0, locals := 0 }, fX8_isWithin, 3, rfl, kX8_isWithin l D ad cA A hlay, ⟨wd_368, wd_55, wd_366, by decide +kernel⟩, wd_367, rfl, rfl, by decide, by decide⟩), List.forall_mem_cons.mpr ⟨Or.inl ⟨yX7_renew, cX7_renew, 3, none, { frames := 1, cells := 0, slots := 0, locals := 23 }, fX7_renew, 2, 7, TX7, 4, rfl, kX7_renew l D ad cA A hlay, ⟨wd_688, wd_57, wd_685, by decide +kernel⟩, wd_686, wd_687, rfl, by decide, rfl, rfl, by decide, by decide⟩, fun _ h => absurd h List.not_mem_nil⟩⟩
  exact am_meth (G := GX8_tray) (rk := 0) (plainFor_of_name (by decide)) hlay (fun i z h => okF_X8 _ (am_al_in h)) (fun i z h => okK_X8 _ (am_al_in h)) (fun i z h => okS_X8 _ (am_al_in h)) (Or.inl ⟨rfl, rfl⟩) (fun i z h => hm _ (am_al_in h))
theorem lX8_tray_76 : GX8_tray.2.2.2 76 = some (none, 3, fX8_isWithin) := rfl
theorem lX8_tray_32 : GX8_tray.1 32 = some (8, 4) := rfl
theorem lX8_tray_248 : GX8_tray.2.2.2 248 = some (some 7, 2, fX7_renew) := rfl
noncomputable def MX8_lay : List (Nat × am_M) := [(76, (none, 3, fX8_isWithin)), (92, (some 1, 1, fX1_has)), (252, (some 7, 1, fX7_faultAt)), (256, (some 7, 1, fX7_takes))]
noncomputable def GX8_lay : am_G := (am_al FX8, am_al KX8, am_al SX8, am_al MX8_lay)
noncomputable def fX8_lay : List Value → am_H → am_R := am_fn 0 GX8_lay cX8_lay 7
theorem kX8_lay (l : Launch) (D : va_G) (ad : Nat → Nat) (cA : Nat → ClassId) (A : Nat → Prop) (hlay : am_lays) : am_Met l D ad cA A yX8_lay cX8_lay 7 (some .int) { frames := 1, cells := 0, slots := 0, locals := 22 } fX8_lay := by
  have hm : ∀ e ∈ MX8_lay, am_cc l D ad cA A yX8_lay.cls { frames := 1, cells := 0, slots := 0, locals := 22 } e.1 e.2 := List.forall_mem_cons.mpr ⟨Or.inr (Or.inl ⟨yX8_isWithin, cX8_isWithin, 3, (some .boolean), { frames := 0, cells := 0, slots := 0, locals := 0 }, fX8_isWithin, 3, rfl, kX8_isWithin l D ad cA A hlay, ⟨wd_368, wd_55, wd_366, by decide +kernel⟩, wd_367, rfl, rfl, by decide, by decide⟩), List.forall_mem_cons.mpr ⟨Or.inl ⟨yX1_has, cX1_has, 2, (some .boolean), { frames := 0, cells := 0, slots := 0, locals := 0 }, fX1_has, 1, 1, TX1, 4, rfl, kX1_has l D ad cA A hlay, ⟨wd_403, wd_56, wd_400, by decide +kernel⟩, wd_401, wd_402, rfl, by decide, rfl, rfl, by decide, by decide⟩, List.forall_mem_cons.mpr ⟨Or.inl ⟨yX7_faultAt, cX7_faultAt, 2, (some .int), { frames := 0, cells := 0, slots := 0, locals := 0 }, fX7_faultAt, 1, 7, TX7, 4, rfl, kX7_faultAt l D ad cA A hlay, ⟨wd_697, wd_57, wd_694, by decide +kernel⟩, wd_695, wd_696, rfl, by decide, rfl, rfl, by decide, by decide⟩, List.forall_mem_cons.mpr ⟨Or.inl ⟨yX7_takes, cX7_takes, 2, (some .boolean), { frames := 0, cells := 0, slots := 0, locals := 0 }, fX7_takes, 1, 7, TX7, 4, rfl, kX7_takes l D ad cA A hlay, ⟨wd_701, wd_57, wd_698, by decide +kernel⟩, wd_699, wd_700, rfl, by decide, rfl, rfl, by decide, by decide⟩, fun _ h => absurd h List.not_mem_nil⟩⟩⟩⟩
  exact am_meth (G := GX8_lay) (rk := 0) (plainFor_of_name (by decide)) hlay (fun i z h => okF_X8 _ (am_al_in h)) (fun i z h => okK_X8 _ (am_al_in h)) (fun i z h => okS_X8 _ (am_al_in h)) (Or.inl ⟨rfl, rfl⟩) (fun i z h => hm _ (am_al_in h))
theorem lX8_lay_76 : GX8_lay.2.2.2 76 = some (none, 3, fX8_isWithin) := rfl
theorem lX8_lay_14 : GX8_lay.1 14 = some (8, 0) := rfl
theorem lX8_lay_18 : GX8_lay.1 18 = some (8, 1) := rfl
theorem lX8_lay_92 : GX8_lay.2.2.2 92 = some (some 1, 1, fX1_has) := rfl
theorem lX8_lay_32 : GX8_lay.1 32 = some (8, 4) := rfl
theorem lX8_lay_252 : GX8_lay.2.2.2 252 = some (some 7, 1, fX7_faultAt) := rfl
theorem lX8_lay_256 : GX8_lay.2.2.2 256 = some (some 7, 1, fX7_takes) := rfl
theorem lX8_lay_259 : GX8_lay.1 259 = some (7, 0) := rfl
noncomputable def MX8_seen : List (Nat × am_M) := [(76, (none, 3, fX8_isWithin)), (252, (some 7, 1, fX7_faultAt))]
noncomputable def GX8_seen : am_G := (am_al FX8, am_al KX8, am_al SX8, am_al MX8_seen)
noncomputable def fX8_seen : List Value → am_H → am_R := am_fn 0 GX8_seen cX8_seen 4
theorem kX8_seen (l : Launch) (D : va_G) (ad : Nat → Nat) (cA : Nat → ClassId) (A : Nat → Prop) (hlay : am_lays) : am_Met l D ad cA A yX8_seen cX8_seen 4 (some .int) { frames := 1, cells := 0, slots := 0, locals := 22 } fX8_seen := by
  have hm : ∀ e ∈ MX8_seen, am_cc l D ad cA A yX8_seen.cls { frames := 1, cells := 0, slots := 0, locals := 22 } e.1 e.2 := List.forall_mem_cons.mpr ⟨Or.inr (Or.inl ⟨yX8_isWithin, cX8_isWithin, 3, (some .boolean), { frames := 0, cells := 0, slots := 0, locals := 0 }, fX8_isWithin, 3, rfl, kX8_isWithin l D ad cA A hlay, ⟨wd_368, wd_55, wd_366, by decide +kernel⟩, wd_367, rfl, rfl, by decide, by decide⟩), List.forall_mem_cons.mpr ⟨Or.inl ⟨yX7_faultAt, cX7_faultAt, 2, (some .int), { frames := 0, cells := 0, slots := 0, locals := 0 }, fX7_faultAt, 1, 7, TX7, 4, rfl, kX7_faultAt l D ad cA A hlay, ⟨wd_697, wd_57, wd_694, by decide +kernel⟩, wd_695, wd_696, rfl, by decide, rfl, rfl, by decide, by decide⟩, fun _ h => absurd h List.not_mem_nil⟩⟩
  exact am_meth (G := GX8_seen) (rk := 0) (plainFor_of_name (by decide)) hlay (fun i z h => okF_X8 _ (am_al_in h)) (fun i z h => okK_X8 _ (am_al_in h)) (fun i z h => okS_X8 _ (am_al_in h)) (Or.inl ⟨rfl, rfl⟩) (fun i z h => hm _ (am_al_in h))
theorem lX8_seen_76 : GX8_seen.2.2.2 76 = some (none, 3, fX8_isWithin) := rfl
theorem lX8_seen_32 : GX8_seen.1 32 = some (8, 4) := rfl
theorem lX8_seen_252 : GX8_seen.2.2.2 252 = some (some 7, 1, fX7_faultAt) := rfl
theorem lX8_seen_259 : GX8_seen.1 259 = some (7, 0) := rfl
noncomputable def MX8_traysThere : List (Nat × am_M) := []
noncomputable def GX8_traysThere : am_G := (am_al FX8, am_al KX8, am_al SX8, am_al MX8_traysThere)
noncomputable def fX8_traysThere : List Value → am_H → am_R := am_fn 0 GX8_traysThere cX8_traysThere 3
theorem kX8_traysThere (l : Launch) (D : va_G) (ad : Nat → Nat) (cA : Nat → ClassId) (A : Nat → Prop) (hlay : am_lays) : am_Met l D ad cA A yX8_traysThere cX8_traysThere 3 (some .int) { frames := 0, cells := 0, slots := 0, locals := 0 } fX8_traysThere := by
  have hm : ∀ e ∈ MX8_traysThere, am_cc l D ad cA A yX8_traysThere.cls { frames := 0, cells := 0, slots := 0, locals := 0 } e.1 e.2 := fun _ h => absurd h List.not_mem_nil
  exact am_meth (G := GX8_traysThere) (rk := 0) (plainFor_of_name (by decide)) hlay (fun i z h => okF_X8 _ (am_al_in h)) (fun i z h => okK_X8 _ (am_al_in h)) (fun i z h => okS_X8 _ (am_al_in h)) (Or.inl ⟨rfl, rfl⟩) (fun i z h => hm _ (am_al_in h))
theorem lX8_traysThere_32 : GX8_traysThere.1 32 = some (8, 4) := rfl
theorem lX8_traysThere_307 : GX8_traysThere.1 307 = some (7, 1) := rfl
noncomputable def MX8_copiesKept : List (Nat × am_M) := []
noncomputable def GX8_copiesKept : am_G := (am_al FX8, am_al KX8, am_al SX8, am_al MX8_copiesKept)
noncomputable def fX8_copiesKept : List Value → am_H → am_R := am_fn 0 GX8_copiesKept cX8_copiesKept 3
theorem kX8_copiesKept (l : Launch) (D : va_G) (ad : Nat → Nat) (cA : Nat → ClassId) (A : Nat → Prop) (hlay : am_lays) : am_Met l D ad cA A yX8_copiesKept cX8_copiesKept 3 (some .int) { frames := 0, cells := 0, slots := 0, locals := 0 } fX8_copiesKept := by
  have hm : ∀ e ∈ MX8_copiesKept, am_cc l D ad cA A yX8_copiesKept.cls { frames := 0, cells := 0, slots := 0, locals := 0 } e.1 e.2 := fun _ h => absurd h List.not_mem_nil
  exact am_meth (G := GX8_copiesKept) (rk := 0) (plainFor_of_name (by decide)) hlay (fun i z h => okF_X8 _ (am_al_in h)) (fun i z h => okK_X8 _ (am_al_in h)) (fun i z h => okS_X8 _ (am_al_in h)) (Or.inl ⟨rfl, rfl⟩) (fun i z h => hm _ (am_al_in h))
theorem lX8_copiesKept_25 : GX8_copiesKept.1 25 = some (8, 3) := rfl
noncomputable def MX8_many : List (Nat × am_M) := [(173, (some 8, 1, fX8_pairUp)), (169, (some 8, 1, fX8_clean)), (263, (some 8, 0, fX8_traysThere)), (266, (some 8, 0, fX8_copiesKept))]
noncomputable def GX8_many : am_G := (am_al FX8, am_al KX8, am_al SX8, am_al MX8_many)
noncomputable def fX8_many : List Value → am_H → am_R := am_fn 0 GX8_many cX8_many 2
theorem kX8_many (l : Launch) (D : va_G) (ad : Nat → Nat) (cA : Nat → ClassId) (A : Nat → Prop) (hlay : am_lays) : am_Met l D ad cA A yX8_many cX8_many 2 (some .int) { frames := 6, cells := 0, slots := 0, locals := 147 } fX8_many := by
  have hm : ∀ e ∈ MX8_many, am_cc l D ad cA A yX8_many.cls { frames := 6, cells := 0, slots := 0, locals := 147 } e.1 e.2 := List.forall_mem_cons.mpr ⟨Or.inl ⟨yX8_pairUp, cX8_pairUp, 2, none, { frames := 4, cells := 0, slots := 0, locals := 103 }, fX8_pairUp, 1, 8, TX8, 11, rfl, kX8_pairUp l D ad cA A hlay, ⟨wd_533, wd_55, wd_530, by decide +kernel⟩, wd_532, wd_9, rfl, by decide, rfl, rfl, by decide, by decide⟩, List.forall_mem_cons.mpr ⟨Or.inl ⟨yX8_clean, cX8_clean, 4, none, { frames := 5, cells := 0, slots := 0, locals := 124 }, fX8_clean, 1, 8, TX8, 11, rfl, kX8_clean l D ad cA A hlay, ⟨wd_529, wd_55, wd_526, by decide +kernel⟩, wd_528, wd_8, rfl, by decide, rfl, rfl, by decide, by decide⟩, List.forall_mem_cons.mpr ⟨Or.inl ⟨yX8_traysThere, cX8_traysThere, 3, (some .int), { frames := 0, cells := 0, slots := 0, locals := 0 }, fX8_traysThere, 0, 8, TX8, 11, rfl, kX8_traysThere l D ad cA A hlay, ⟨wd_713, wd_55, wd_710, by decide +kernel⟩, wd_712, wd_23, rfl, by decide, rfl, rfl, by decide, by decide⟩, List.forall_mem_cons.mpr ⟨Or.inl ⟨yX8_copiesKept, cX8_copiesKept, 3, (some .int), { frames := 0, cells := 0, slots := 0, locals := 0 }, fX8_copiesKept, 0, 8, TX8, 11, rfl, kX8_copiesKept l D ad cA A hlay, ⟨wd_717, wd_55, wd_714, by decide +kernel⟩, wd_716, wd_24, rfl, by decide, rfl, rfl, by decide, by decide⟩, fun _ h => absurd h List.not_mem_nil⟩⟩⟩⟩
  exact am_meth (G := GX8_many) (rk := 0) (plainFor_of_name (by decide)) hlay (fun i z h => okF_X8 _ (am_al_in h)) (fun i z h => okK_X8 _ (am_al_in h)) (fun i z h => okS_X8 _ (am_al_in h)) (Or.inl ⟨rfl, rfl⟩) (fun i z h => hm _ (am_al_in h))
theorem lX8_many_14 : GX8_many.1 14 = some (8, 0) := rfl
theorem lX8_many_215 : GX8_many.1 215 = some (1, 3) := rfl
theorem lX8_many_18 : GX8_many.1 18 = some (8, 1) := rfl
theorem lX8_many_173 : GX8_many.2.2.2 173 = some (some 8, 1, fX8_pairUp) := rfl
theorem lX8_many_58 : GX8_many.1 58 = some (8, 8) := rfl
theorem lX8_many_262 : GX8_many.1 262 = some (4, 2) := rfl
theorem lX8_many_169 : GX8_many.2.2.2 169 = some (some 8, 1, fX8_clean) := rfl
theorem lX8_many_263 : GX8_many.2.2.2 263 = some (some 8, 0, fX8_traysThere) := rfl
theorem lX8_many_266 : GX8_many.2.2.2 266 = some (some 8, 0, fX8_copiesKept) := rfl
noncomputable def MX9_within : List (Nat × am_M) := []
noncomputable def GX9_within : am_G := (am_al FX9, am_al KX9, am_al SX9, am_al MX9_within)
noncomputable def fX9_within : List Value → am_H → am_R := am_fn 1 GX9_within cX9_within 3
theorem kX9_within (l : Launch) (D : va_G) (ad : Nat → Nat) (cA : Nat → ClassId) (A : Nat → Prop) (hlay : am_lays) : am_Met l D ad cA A yX9_within cX9_within 3 (some .boolean) { frames := 0, cells := 0, slots := 0, locals := 0 } fX9_within := by
  have hm : ∀ e ∈ MX9_within, am_cc l D ad cA A yX9_within.cls { frames := 0, cells := 0, slots := 0, locals := 0 } e.1 e.2 := fun _ h => absurd h List.not_mem_nil
  exact am_meth (G := GX9_within) (rk := 1) (plainFor_of_name (by decide)) hlay (fun i z h => okF_X9 _ (am_al_in h)) (fun i z h => okK_X9 _ (am_al_in h)) (fun i z h => okS_X9 _ (am_al_in h)) (Or.inr (Or.inl ⟨rfl, rfl⟩)) (fun i z h => hm _ (am_al_in h))
noncomputable def MX9_isPlate : List (Nat × am_M) := [(75, (none, 3, fX9_within))]
noncomputable def GX9_isPlate : am_G := (am_al FX9, am_al KX9, am_al SX9, am_al MX9_isPlate)
noncomputable def fX9_isPlate : List Value → am_H → am_R := am_fn 1 GX9_isPlate cX9_isPlate 1
theorem kX9_isPlate (l : Launch) (D : va_G) (ad : Nat → Nat) (cA : Nat → ClassId) (A : Nat → Prop) (hlay : am_lays) : am_Met l D ad cA A yX9_isPlate cX9_isPlate 1 (some .boolean) { frames := 1, cells := 0, slots := 0, locals := 22 } fX9_isPlate := by
  have hm : ∀ e ∈ MX9_isPlate, am_cc l D ad cA A yX9_isPlate.cls { frames := 1, cells := 0, slots := 0, locals := 22 } e.1 e.2 := List.forall_mem_cons.mpr ⟨Or.inr (Or.inl ⟨yX9_within, cX9_within, 3, (some .boolean), { frames := 0, cells := 0, slots := 0, locals := 0 }, fX9_within, 3, rfl, kX9_within l D ad cA A hlay, ⟨wd_849, wd_64, wd_847, by decide +kernel⟩, wd_848, rfl, rfl, by decide, by decide⟩), fun _ h => absurd h List.not_mem_nil⟩
  exact am_meth (G := GX9_isPlate) (rk := 1) (plainFor_of_name (by decide)) hlay (fun i z h => okF_X9 _ (am_al_in h)) (fun i z h => okK_X9 _ (am_al_in h)) (fun i z h => okS_X9 _ (am_al_in h)) (Or.inr (Or.inl ⟨rfl, rfl⟩)) (fun i z h => hm _ (am_al_in h))
theorem lX9_isPlate_75 : GX9_isPlate.2.2.2 75 = some (none, 3, fX9_within) := rfl
noncomputable def MX9_isThing : List (Nat × am_M) := [(75, (none, 3, fX9_within))]
noncomputable def GX9_isThing : am_G := (am_al FX9, am_al KX9, am_al SX9, am_al MX9_isThing)
noncomputable def fX9_isThing : List Value → am_H → am_R := am_fn 1 GX9_isThing cX9_isThing 3
theorem kX9_isThing (l : Launch) (D : va_G) (ad : Nat → Nat) (cA : Nat → ClassId) (A : Nat → Prop) (hlay : am_lays) : am_Met l D ad cA A yX9_isThing cX9_isThing 3 (some .boolean) { frames := 1, cells := 0, slots := 0, locals := 22 } fX9_isThing := by
  have hm : ∀ e ∈ MX9_isThing, am_cc l D ad cA A yX9_isThing.cls { frames := 1, cells := 0, slots := 0, locals := 22 } e.1 e.2 := List.forall_mem_cons.mpr ⟨Or.inr (Or.inl ⟨yX9_within, cX9_within, 3, (some .boolean), { frames := 0, cells := 0, slots := 0, locals := 0 }, fX9_within, 3, rfl, kX9_within l D ad cA A hlay, ⟨wd_849, wd_64, wd_847, by decide +kernel⟩, wd_848, rfl, rfl, by decide, by decide⟩), fun _ h => absurd h List.not_mem_nil⟩
  exact am_meth (G := GX9_isThing) (rk := 1) (plainFor_of_name (by decide)) hlay (fun i z h => okF_X9 _ (am_al_in h)) (fun i z h => okK_X9 _ (am_al_in h)) (fun i z h => okS_X9 _ (am_al_in h)) (Or.inr (Or.inl ⟨rfl, rfl⟩)) (fun i z h => hm _ (am_al_in h))
theorem lX9_isThing_7 : GX9_isThing.1 7 = some (9, 0) := rfl
theorem lX9_isThing_75 : GX9_isThing.2.2.2 75 = some (none, 3, fX9_within) := rfl
noncomputable def MX9_isAt : List (Nat × am_M) := []
noncomputable def GX9_isAt : am_G := (am_al FX9, am_al KX9, am_al SX9, am_al MX9_isAt)
noncomputable def fX9_isAt : List Value → am_H → am_R := am_fn 1 GX9_isAt cX9_isAt 6
theorem kX9_isAt (l : Launch) (D : va_G) (ad : Nat → Nat) (cA : Nat → ClassId) (A : Nat → Prop) (hlay : am_lays) : am_Met l D ad cA A yX9_isAt cX9_isAt 6 (some .boolean) { frames := 0, cells := 0, slots := 0, locals := 0 } fX9_isAt := by
  have hm : ∀ e ∈ MX9_isAt, am_cc l D ad cA A yX9_isAt.cls { frames := 0, cells := 0, slots := 0, locals := 0 } e.1 e.2 := fun _ h => absurd h List.not_mem_nil
  exact am_meth (G := GX9_isAt) (rk := 1) (plainFor_of_name (by decide)) hlay (fun i z h => okF_X9 _ (am_al_in h)) (fun i z h => okK_X9 _ (am_al_in h)) (fun i z h => okS_X9 _ (am_al_in h)) (Or.inr (Or.inl ⟨rfl, rfl⟩)) (fun i z h => hm _ (am_al_in h))
theorem lX9_isAt_7 : GX9_isAt.1 7 = some (9, 0) := rfl
theorem lX9_isAt_13 : GX9_isAt.1 13 = some (9, 1) := rfl
theorem lX9_isAt_16 : GX9_isAt.1 16 = some (9, 2) := rfl
noncomputable def MX9_adds : List (Nat × am_M) := [(79, (some 9, 3, fX9_isAt))]
noncomputable def GX9_adds : am_G := (am_al FX9, am_al KX9, am_al SX9, am_al MX9_adds)
noncomputable def fX9_adds : List Value → am_H → am_R := am_fn 0 GX9_adds cX9_adds 6
theorem kX9_adds (l : Launch) (D : va_G) (ad : Nat → Nat) (cA : Nat → ClassId) (A : Nat → Prop) (hlay : am_lays) : am_Met l D ad cA A yX9_adds cX9_adds 6 (some .int) { frames := 1, cells := 0, slots := 0, locals := 25 } fX9_adds := by
  have hm : ∀ e ∈ MX9_adds, am_cc l D ad cA A yX9_adds.cls { frames := 1, cells := 0, slots := 0, locals := 25 } e.1 e.2 := List.forall_mem_cons.mpr ⟨Or.inl ⟨yX9_isAt, cX9_isAt, 6, (some .boolean), { frames := 0, cells := 0, slots := 0, locals := 0 }, fX9_isAt, 3, 9, TX9, 39, rfl, kX9_isAt l D ad cA A hlay, ⟨wd_857, wd_64, wd_854, by decide +kernel⟩, wd_856, wd_26, rfl, by decide, rfl, rfl, by decide, by decide⟩, fun _ h => absurd h List.not_mem_nil⟩
  exact am_meth (G := GX9_adds) (rk := 0) (plainFor_of_name (by decide)) hlay (fun i z h => okF_X9 _ (am_al_in h)) (fun i z h => okK_X9 _ (am_al_in h)) (fun i z h => okS_X9 _ (am_al_in h)) (Or.inl ⟨rfl, rfl⟩) (fun i z h => hm _ (am_al_in h))
theorem lX9_adds_79 : GX9_adds.2.2.2 79 = some (some 9, 3, fX9_isAt) := rfl
theorem lX9_adds_7 : GX9_adds.1 7 = some (9, 0) := rfl
theorem lX9_adds_13 : GX9_adds.1 13 = some (9, 1) := rfl
theorem lX9_adds_16 : GX9_adds.1 16 = some (9, 2) := rfl
theorem lX9_adds_19 : GX9_adds.1 19 = some (9, 3) := rfl
noncomputable def MX9_star : List (Nat × am_M) := [(75, (none, 3, fX9_within)), (82, (some 9, 4, fX9_adds))]
noncomputable def GX9_star : am_G := (am_al FX9, am_al KX9, am_al SX9, am_al MX9_star)
noncomputable def fX9_star : List Value → am_H → am_R := am_fn 0 GX9_star cX9_star 4
theorem kX9_star (l : Launch) (D : va_G) (ad : Nat → Nat) (cA : Nat → ClassId) (A : Nat → Prop) (hlay : am_lays) : am_Met l D ad cA A yX9_star cX9_star 4 (some .int) { frames := 2, cells := 0, slots := 0, locals := 50 } fX9_star := by
  have hm : ∀ e ∈ MX9_star, am_cc l D ad cA A yX9_star.cls { frames := 2, cells := 0, slots := 0, locals := 50 } e.1 e.2 := List.forall_mem_cons.mpr ⟨Or.inr (Or.inl ⟨yX9_within, cX9_within, 3, (some .boolean), { frames := 0, cells := 0, slots := 0, locals := 0 }, fX9_within, 3, rfl, kX9_within l D ad cA A hlay, ⟨wd_849, wd_64, wd_847, by decide +kernel⟩, wd_848, rfl, rfl, by decide, by decide⟩), List.forall_mem_cons.mpr ⟨Or.inl ⟨yX9_adds, cX9_adds, 6, (some .int), { frames := 1, cells := 0, slots := 0, locals := 25 }, fX9_adds, 4, 9, TX9, 39, rfl, kX9_adds l D ad cA A hlay, ⟨wd_853, wd_64, wd_850, by decide +kernel⟩, wd_852, wd_25, rfl, by decide, rfl, rfl, by decide, by decide⟩, fun _ h => absurd h List.not_mem_nil⟩⟩
  exact am_meth (G := GX9_star) (rk := 0) (plainFor_of_name (by decide)) hlay (fun i z h => okF_X9 _ (am_al_in h)) (fun i z h => okK_X9 _ (am_al_in h)) (fun i z h => okS_X9 _ (am_al_in h)) (Or.inl ⟨rfl, rfl⟩) (fun i z h => hm _ (am_al_in h))
theorem lX9_star_75 : GX9_star.2.2.2 75 = some (none, 3, fX9_within) := rfl
theorem lX9_star_82 : GX9_star.2.2.2 82 = some (some 9, 4, fX9_adds) := rfl
noncomputable def MX9_takesOff : List (Nat × am_M) := []
noncomputable def GX9_takesOff : am_G := (am_al FX9, am_al KX9, am_al SX9, am_al MX9_takesOff)
noncomputable def fX9_takesOff : List Value → am_H → am_R := am_fn 0 GX9_takesOff cX9_takesOff 2
theorem kX9_takesOff (l : Launch) (D : va_G) (ad : Nat → Nat) (cA : Nat → ClassId) (A : Nat → Prop) (hlay : am_lays) : am_Met l D ad cA A yX9_takesOff cX9_takesOff 2 (some .int) { frames := 0, cells := 0, slots := 0, locals := 0 } fX9_takesOff := by
  have hm : ∀ e ∈ MX9_takesOff, am_cc l D ad cA A yX9_takesOff.cls { frames := 0, cells := 0, slots := 0, locals := 0 } e.1 e.2 := fun _ h => absurd h List.not_mem_nil
  exact am_meth (G := GX9_takesOff) (rk := 0) (plainFor_of_name (by decide)) hlay (fun i z h => okF_X9 _ (am_al_in h)) (fun i z h => okK_X9 _ (am_al_in h)) (fun i z h => okS_X9 _ (am_al_in h)) (Or.inl ⟨rfl, rfl⟩) (fun i z h => hm _ (am_al_in h))
theorem lX9_takesOff_7 : GX9_takesOff.1 7 = some (9, 0) := rfl
noncomputable def MX9_unstar : List (Nat × am_M) := [(86, (some 9, 1, fX9_takesOff))]
noncomputable def GX9_unstar : am_G := (am_al FX9, am_al KX9, am_al SX9, am_al MX9_unstar)
noncomputable def fX9_unstar : List Value → am_H → am_R := am_fn 0 GX9_unstar cX9_unstar 1
theorem kX9_unstar (l : Launch) (D : va_G) (ad : Nat → Nat) (cA : Nat → ClassId) (A : Nat → Prop) (hlay : am_lays) : am_Met l D ad cA A yX9_unstar cX9_unstar 1 (some .int) { frames := 1, cells := 0, slots := 0, locals := 21 } fX9_unstar := by
  have hm : ∀ e ∈ MX9_unstar, am_cc l D ad cA A yX9_unstar.cls { frames := 1, cells := 0, slots := 0, locals := 21 } e.1 e.2 := List.forall_mem_cons.mpr ⟨Or.inl ⟨yX9_takesOff, cX9_takesOff, 2, (some .int), { frames := 0, cells := 0, slots := 0, locals := 0 }, fX9_takesOff, 1, 9, TX9, 39, rfl, kX9_takesOff l D ad cA A hlay, ⟨wd_865, wd_64, wd_862, by decide +kernel⟩, wd_864, wd_27, rfl, by decide, rfl, rfl, by decide, by decide⟩, fun _ h => absurd h List.not_mem_nil⟩
  exact am_meth (G := GX9_unstar) (rk := 0) (plainFor_of_name (by decide)) hlay (fun i z h => okF_X9 _ (am_al_in h)) (fun i z h => okK_X9 _ (am_al_in h)) (fun i z h => okS_X9 _ (am_al_in h)) (Or.inl ⟨rfl, rfl⟩) (fun i z h => hm _ (am_al_in h))
theorem lX9_unstar_86 : GX9_unstar.2.2.2 86 = some (some 9, 1, fX9_takesOff) := rfl
noncomputable def MX9_spot : List (Nat × am_M) := [(90, (none, 1, fX9_isPlate)), (75, (none, 3, fX9_within)), (82, (some 9, 4, fX9_adds))]
noncomputable def GX9_spot : am_G := (am_al FX9, am_al KX9, am_al SX9, am_al MX9_spot)
noncomputable def fX9_spot : List Value → am_H → am_R := am_fn 0 GX9_spot cX9_spot 5
theorem kX9_spot (l : Launch) (D : va_G) (ad : Nat → Nat) (cA : Nat → ClassId) (A : Nat → Prop) (hlay : am_lays) : am_Met l D ad cA A yX9_spot cX9_spot 5 (some .int) { frames := 2, cells := 0, slots := 0, locals := 50 } fX9_spot := by
  have hm : ∀ e ∈ MX9_spot, am_cc l D ad cA A yX9_spot.cls { frames := 2, cells := 0, slots := 0, locals := 50 } e.1 e.2 := List.forall_mem_cons.mpr ⟨Or.inr (Or.inl ⟨yX9_isPlate, cX9_isPlate, 1, (some .boolean), { frames := 1, cells := 0, slots := 0, locals := 22 }, fX9_isPlate, 1, rfl, kX9_isPlate l D ad cA A hlay, ⟨wd_872, wd_64, wd_870, by decide +kernel⟩, wd_871, rfl, rfl, by decide, by decide⟩), List.forall_mem_cons.mpr ⟨Or.inr (Or.inl ⟨yX9_within, cX9_within, 3, (some .boolean), { frames := 0, cells := 0, slots := 0, locals := 0 }, fX9_within, 3, rfl, kX9_within l D ad cA A hlay, ⟨wd_849, wd_64, wd_847, by decide +kernel⟩, wd_848, rfl, rfl, by decide, by decide⟩), List.forall_mem_cons.mpr ⟨Or.inl ⟨yX9_adds, cX9_adds, 6, (some .int), { frames := 1, cells := 0, slots := 0, locals := 25 }, fX9_adds, 4, 9, TX9, 39, rfl, kX9_adds l D ad cA A hlay, ⟨wd_853, wd_64, wd_850, by decide +kernel⟩, wd_852, wd_25, rfl, by decide, rfl, rfl, by decide, by decide⟩, fun _ h => absurd h List.not_mem_nil⟩⟩⟩
  exact am_meth (G := GX9_spot) (rk := 0) (plainFor_of_name (by decide)) hlay (fun i z h => okF_X9 _ (am_al_in h)) (fun i z h => okK_X9 _ (am_al_in h)) (fun i z h => okS_X9 _ (am_al_in h)) (Or.inl ⟨rfl, rfl⟩) (fun i z h => hm _ (am_al_in h))
theorem lX9_spot_90 : GX9_spot.2.2.2 90 = some (none, 1, fX9_isPlate) := rfl
theorem lX9_spot_75 : GX9_spot.2.2.2 75 = some (none, 3, fX9_within) := rfl
theorem lX9_spot_82 : GX9_spot.2.2.2 82 = some (some 9, 4, fX9_adds) := rfl
noncomputable def MX9_unspot : List (Nat × am_M) := [(90, (none, 1, fX9_isPlate)), (86, (some 9, 1, fX9_takesOff))]
noncomputable def GX9_unspot : am_G := (am_al FX9, am_al KX9, am_al SX9, am_al MX9_unspot)
noncomputable def fX9_unspot : List Value → am_H → am_R := am_fn 0 GX9_unspot cX9_unspot 2
theorem kX9_unspot (l : Launch) (D : va_G) (ad : Nat → Nat) (cA : Nat → ClassId) (A : Nat → Prop) (hlay : am_lays) : am_Met l D ad cA A yX9_unspot cX9_unspot 2 (some .int) { frames := 2, cells := 0, slots := 0, locals := 42 } fX9_unspot := by
  have hm : ∀ e ∈ MX9_unspot, am_cc l D ad cA A yX9_unspot.cls { frames := 2, cells := 0, slots := 0, locals := 42 } e.1 e.2 := List.forall_mem_cons.mpr ⟨Or.inr (Or.inl ⟨yX9_isPlate, cX9_isPlate, 1, (some .boolean), { frames := 1, cells := 0, slots := 0, locals := 22 }, fX9_isPlate, 1, rfl, kX9_isPlate l D ad cA A hlay, ⟨wd_872, wd_64, wd_870, by decide +kernel⟩, wd_871, rfl, rfl, by decide, by decide⟩), List.forall_mem_cons.mpr ⟨Or.inl ⟨yX9_takesOff, cX9_takesOff, 2, (some .int), { frames := 0, cells := 0, slots := 0, locals := 0 }, fX9_takesOff, 1, 9, TX9, 39, rfl, kX9_takesOff l D ad cA A hlay, ⟨wd_865, wd_64, wd_862, by decide +kernel⟩, wd_864, wd_27, rfl, by decide, rfl, rfl, by decide, by decide⟩, fun _ h => absurd h List.not_mem_nil⟩⟩
  exact am_meth (G := GX9_unspot) (rk := 0) (plainFor_of_name (by decide)) hlay (fun i z h => okF_X9 _ (am_al_in h)) (fun i z h => okK_X9 _ (am_al_in h)) (fun i z h => okS_X9 _ (am_al_in h)) (Or.inl ⟨rfl, rfl⟩) (fun i z h => hm _ (am_al_in h))
theorem lX9_unspot_90 : GX9_unspot.2.2.2 90 = some (none, 1, fX9_isPlate) := rfl
theorem lX9_unspot_86 : GX9_unspot.2.2.2 86 = some (some 9, 1, fX9_takesOff) := rfl
noncomputable def MX9_tells : List (Nat × am_M) := []
noncomputable def GX9_tells : am_G := (am_al FX9, am_al KX9, am_al SX9, am_al MX9_tells)
noncomputable def fX9_tells : List Value → am_H → am_R := am_fn 0 GX9_tells cX9_tells 6
theorem kX9_tells (l : Launch) (D : va_G) (ad : Nat → Nat) (cA : Nat → ClassId) (A : Nat → Prop) (hlay : am_lays) : am_Met l D ad cA A yX9_tells cX9_tells 6 (some .int) { frames := 0, cells := 0, slots := 0, locals := 0 } fX9_tells := by
  have hm : ∀ e ∈ MX9_tells, am_cc l D ad cA A yX9_tells.cls { frames := 0, cells := 0, slots := 0, locals := 0 } e.1 e.2 := fun _ h => absurd h List.not_mem_nil
  exact am_meth (G := GX9_tells) (rk := 0) (plainFor_of_name (by decide)) hlay (fun i z h => okF_X9 _ (am_al_in h)) (fun i z h => okK_X9 _ (am_al_in h)) (fun i z h => okS_X9 _ (am_al_in h)) (Or.inl ⟨rfl, rfl⟩) (fun i z h => hm _ (am_al_in h))
theorem lX9_tells_13 : GX9_tells.1 13 = some (9, 1) := rfl
theorem lX9_tells_16 : GX9_tells.1 16 = some (9, 2) := rfl
theorem lX9_tells_19 : GX9_tells.1 19 = some (9, 3) := rfl
noncomputable def MX9_ofStar : List (Nat × am_M) := [(94, (some 9, 2, fX9_isThing)), (98, (some 9, 4, fX9_tells))]
noncomputable def GX9_ofStar : am_G := (am_al FX9, am_al KX9, am_al SX9, am_al MX9_ofStar)
noncomputable def fX9_ofStar : List Value → am_H → am_R := am_fn 0 GX9_ofStar cX9_ofStar 3
theorem kX9_ofStar (l : Launch) (D : va_G) (ad : Nat → Nat) (cA : Nat → ClassId) (A : Nat → Prop) (hlay : am_lays) : am_Met l D ad cA A yX9_ofStar cX9_ofStar 3 (some .int) { frames := 2, cells := 0, slots := 0, locals := 44 } fX9_ofStar := by
  have hm : ∀ e ∈ MX9_ofStar, am_cc l D ad cA A yX9_ofStar.cls { frames := 2, cells := 0, slots := 0, locals := 44 } e.1 e.2 := List.forall_mem_cons.mpr ⟨Or.inl ⟨yX9_isThing, cX9_isThing, 3, (some .boolean), { frames := 1, cells := 0, slots := 0, locals := 22 }, fX9_isThing, 2, 9, TX9, 39, rfl, kX9_isThing l D ad cA A hlay, ⟨wd_884, wd_64, wd_881, by decide +kernel⟩, wd_883, wd_28, rfl, by decide, rfl, rfl, by decide, by decide⟩, List.forall_mem_cons.mpr ⟨Or.inl ⟨yX9_tells, cX9_tells, 6, (some .int), { frames := 0, cells := 0, slots := 0, locals := 0 }, fX9_tells, 4, 9, TX9, 39, rfl, kX9_tells l D ad cA A hlay, ⟨wd_888, wd_64, wd_885, by decide +kernel⟩, wd_887, wd_29, rfl, by decide, rfl, rfl, by decide, by decide⟩, fun _ h => absurd h List.not_mem_nil⟩⟩
  exact am_meth (G := GX9_ofStar) (rk := 0) (plainFor_of_name (by decide)) hlay (fun i z h => okF_X9 _ (am_al_in h)) (fun i z h => okK_X9 _ (am_al_in h)) (fun i z h => okS_X9 _ (am_al_in h)) (Or.inl ⟨rfl, rfl⟩) (fun i z h => hm _ (am_al_in h))
theorem lX9_ofStar_94 : GX9_ofStar.2.2.2 94 = some (some 9, 2, fX9_isThing) := rfl
theorem lX9_ofStar_98 : GX9_ofStar.2.2.2 98 = some (some 9, 4, fX9_tells) := rfl
noncomputable def MX9_ofSpot : List (Nat × am_M) := [(90, (none, 1, fX9_isPlate)), (94, (some 9, 2, fX9_isThing)), (98, (some 9, 4, fX9_tells))]
noncomputable def GX9_ofSpot : am_G := (am_al FX9, am_al KX9, am_al SX9, am_al MX9_ofSpot)
noncomputable def fX9_ofSpot : List Value → am_H → am_R := am_fn 0 GX9_ofSpot cX9_ofSpot 4
theorem kX9_ofSpot (l : Launch) (D : va_G) (ad : Nat → Nat) (cA : Nat → ClassId) (A : Nat → Prop) (hlay : am_lays) : am_Met l D ad cA A yX9_ofSpot cX9_ofSpot 4 (some .int) { frames := 2, cells := 0, slots := 0, locals := 44 } fX9_ofSpot := by
  have hm : ∀ e ∈ MX9_ofSpot, am_cc l D ad cA A yX9_ofSpot.cls { frames := 2, cells := 0, slots := 0, locals := 44 } e.1 e.2 := List.forall_mem_cons.mpr ⟨Or.inr (Or.inl ⟨yX9_isPlate, cX9_isPlate, 1, (some .boolean), { frames := 1, cells := 0, slots := 0, locals := 22 }, fX9_isPlate, 1, rfl, kX9_isPlate l D ad cA A hlay, ⟨wd_872, wd_64, wd_870, by decide +kernel⟩, wd_871, rfl, rfl, by decide, by decide⟩), List.forall_mem_cons.mpr ⟨Or.inl ⟨yX9_isThing, cX9_isThing, 3, (some .boolean), { frames := 1, cells := 0, slots := 0, locals := 22 }, fX9_isThing, 2, 9, TX9, 39, rfl, kX9_isThing l D ad cA A hlay, ⟨wd_884, wd_64, wd_881, by decide +kernel⟩, wd_883, wd_28, rfl, by decide, rfl, rfl, by decide, by decide⟩, List.forall_mem_cons.mpr ⟨Or.inl ⟨yX9_tells, cX9_tells, 6, (some .int), { frames := 0, cells := 0, slots := 0, locals := 0 }, fX9_tells, 4, 9, TX9, 39, rfl, kX9_tells l D ad cA A hlay, ⟨wd_888, wd_64, wd_885, by decide +kernel⟩, wd_887, wd_29, rfl, by decide, rfl, rfl, by decide, by decide⟩, fun _ h => absurd h List.not_mem_nil⟩⟩⟩
  exact am_meth (G := GX9_ofSpot) (rk := 0) (plainFor_of_name (by decide)) hlay (fun i z h => okF_X9 _ (am_al_in h)) (fun i z h => okK_X9 _ (am_al_in h)) (fun i z h => okS_X9 _ (am_al_in h)) (Or.inl ⟨rfl, rfl⟩) (fun i z h => hm _ (am_al_in h))
theorem lX9_ofSpot_90 : GX9_ofSpot.2.2.2 90 = some (none, 1, fX9_isPlate) := rfl
theorem lX9_ofSpot_94 : GX9_ofSpot.2.2.2 94 = some (some 9, 2, fX9_isThing) := rfl
theorem lX9_ofSpot_98 : GX9_ofSpot.2.2.2 98 = some (some 9, 4, fX9_tells) := rfl
noncomputable def MX9_exponentOf : List (Nat × am_M) := []
noncomputable def GX9_exponentOf : am_G := (am_al FX9, am_al KX9, am_al SX9, am_al MX9_exponentOf)
noncomputable def fX9_exponentOf : List Value → am_H → am_R := am_fn 0 GX9_exponentOf cX9_exponentOf 1
theorem kX9_exponentOf (l : Launch) (D : va_G) (ad : Nat → Nat) (cA : Nat → ClassId) (A : Nat → Prop) (hlay : am_lays) : am_Met l D ad cA A yX9_exponentOf cX9_exponentOf 1 (some .int) { frames := 0, cells := 0, slots := 0, locals := 0 } fX9_exponentOf := by
  have hm : ∀ e ∈ MX9_exponentOf, am_cc l D ad cA A yX9_exponentOf.cls { frames := 0, cells := 0, slots := 0, locals := 0 } e.1 e.2 := fun _ h => absurd h List.not_mem_nil
  exact am_meth (G := GX9_exponentOf) (rk := 0) (plainFor_of_name (by decide)) hlay (fun i z h => okF_X9 _ (am_al_in h)) (fun i z h => okK_X9 _ (am_al_in h)) (fun i z h => okS_X9 _ (am_al_in h)) (Or.inl ⟨rfl, rfl⟩) (fun i z h => hm _ (am_al_in h))
noncomputable def MX9_belowOf : List (Nat × am_M) := []
noncomputable def GX9_belowOf : am_G := (am_al FX9, am_al KX9, am_al SX9, am_al MX9_belowOf)
noncomputable def fX9_belowOf : List Value → am_H → am_R := am_fn 0 GX9_belowOf cX9_belowOf 1
theorem kX9_belowOf (l : Launch) (D : va_G) (ad : Nat → Nat) (cA : Nat → ClassId) (A : Nat → Prop) (hlay : am_lays) : am_Met l D ad cA A yX9_belowOf cX9_belowOf 1 (some .int) { frames := 0, cells := 0, slots := 0, locals := 0 } fX9_belowOf := by
  have hm : ∀ e ∈ MX9_belowOf, am_cc l D ad cA A yX9_belowOf.cls { frames := 0, cells := 0, slots := 0, locals := 0 } e.1 e.2 := fun _ h => absurd h List.not_mem_nil
  exact am_meth (G := GX9_belowOf) (rk := 0) (plainFor_of_name (by decide)) hlay (fun i z h => okF_X9 _ (am_al_in h)) (fun i z h => okK_X9 _ (am_al_in h)) (fun i z h => okS_X9 _ (am_al_in h)) (Or.inl ⟨rfl, rfl⟩) (fun i z h => hm _ (am_al_in h))
theorem lX9_belowOf_101 : GX9_belowOf.2.1 101 = some (.int (8388607)) := rfl
noncomputable def MX9_isNoNumber : List (Nat × am_M) := [(102, (none, 1, fX9_exponentOf)), (105, (none, 1, fX9_belowOf))]
noncomputable def GX9_isNoNumber : am_G := (am_al FX9, am_al KX9, am_al SX9, am_al MX9_isNoNumber)
noncomputable def fX9_isNoNumber : List Value → am_H → am_R := am_fn 1 GX9_isNoNumber cX9_isNoNumber 1
theorem kX9_isNoNumber (l : Launch) (D : va_G) (ad : Nat → Nat) (cA : Nat → ClassId) (A : Nat → Prop) (hlay : am_lays) : am_Met l D ad cA A yX9_isNoNumber cX9_isNoNumber 1 (some .boolean) { frames := 1, cells := 0, slots := 0, locals := 20 } fX9_isNoNumber := by
  have hm : ∀ e ∈ MX9_isNoNumber, am_cc l D ad cA A yX9_isNoNumber.cls { frames := 1, cells := 0, slots := 0, locals := 20 } e.1 e.2 := List.forall_mem_cons.mpr ⟨Or.inr (Or.inl ⟨yX9_exponentOf, cX9_exponentOf, 1, (some .int), { frames := 0, cells := 0, slots := 0, locals := 0 }, fX9_exponentOf, 1, rfl, kX9_exponentOf l D ad cA A hlay, ⟨wd_905, wd_64, wd_903, by decide +kernel⟩, wd_904, rfl, rfl, by decide, by decide⟩), List.forall_mem_cons.mpr ⟨Or.inr (Or.inl ⟨yX9_belowOf, cX9_belowOf, 1, (some .int), { frames := 0, cells := 0, slots := 0, locals := 0 }, fX9_belowOf, 1, rfl, kX9_belowOf l D ad cA A hlay, ⟨wd_908, wd_64, wd_906, by decide +kernel⟩, wd_907, rfl, rfl, by decide, by decide⟩), fun _ h => absurd h List.not_mem_nil⟩⟩
  exact am_meth (G := GX9_isNoNumber) (rk := 1) (plainFor_of_name (by decide)) hlay (fun i z h => okF_X9 _ (am_al_in h)) (fun i z h => okK_X9 _ (am_al_in h)) (fun i z h => okS_X9 _ (am_al_in h)) (Or.inr (Or.inl ⟨rfl, rfl⟩)) (fun i z h => hm _ (am_al_in h))
theorem lX9_isNoNumber_102 : GX9_isNoNumber.2.2.2 102 = some (none, 1, fX9_exponentOf) := rfl
theorem lX9_isNoNumber_105 : GX9_isNoNumber.2.2.2 105 = some (none, 1, fX9_belowOf) := rfl
noncomputable def MX9_cutOf : List (Nat × am_M) := [(102, (none, 1, fX9_exponentOf)), (105, (none, 1, fX9_belowOf))]
noncomputable def GX9_cutOf : am_G := (am_al FX9, am_al KX9, am_al SX9, am_al MX9_cutOf)
noncomputable def fX9_cutOf : List Value → am_H → am_R := am_fn 0 GX9_cutOf cX9_cutOf 7
theorem kX9_cutOf (l : Launch) (D : va_G) (ad : Nat → Nat) (cA : Nat → ClassId) (A : Nat → Prop) (hlay : am_lays) : am_Met l D ad cA A yX9_cutOf cX9_cutOf 7 (some .int) { frames := 1, cells := 0, slots := 0, locals := 20 } fX9_cutOf := by
  have hm : ∀ e ∈ MX9_cutOf, am_cc l D ad cA A yX9_cutOf.cls { frames := 1, cells := 0, slots := 0, locals := 20 } e.1 e.2 := List.forall_mem_cons.mpr ⟨Or.inr (Or.inl ⟨yX9_exponentOf, cX9_exponentOf, 1, (some .int), { frames := 0, cells := 0, slots := 0, locals := 0 }, fX9_exponentOf, 1, rfl, kX9_exponentOf l D ad cA A hlay, ⟨wd_905, wd_64, wd_903, by decide +kernel⟩, wd_904, rfl, rfl, by decide, by decide⟩), List.forall_mem_cons.mpr ⟨Or.inr (Or.inl ⟨yX9_belowOf, cX9_belowOf, 1, (some .int), { frames := 0, cells := 0, slots := 0, locals := 0 }, fX9_belowOf, 1, rfl, kX9_belowOf l D ad cA A hlay, ⟨wd_908, wd_64, wd_906, by decide +kernel⟩, wd_907, rfl, rfl, by decide, by decide⟩), fun _ h => absurd h List.not_mem_nil⟩⟩
  exact am_meth (G := GX9_cutOf) (rk := 0) (plainFor_of_name (by decide)) hlay (fun i z h => okF_X9 _ (am_al_in h)) (fun i z h => okK_X9 _ (am_al_in h)) (fun i z h => okS_X9 _ (am_al_in h)) (Or.inl ⟨rfl, rfl⟩) (fun i z h => hm _ (am_al_in h))
theorem lX9_cutOf_102 : GX9_cutOf.2.2.2 102 = some (none, 1, fX9_exponentOf) := rfl
theorem lX9_cutOf_108 : GX9_cutOf.2.1 108 = some (.int (8388608)) := rfl
theorem lX9_cutOf_105 : GX9_cutOf.2.2.2 105 = some (none, 1, fX9_belowOf) := rfl
noncomputable def MX9_lightBy : List (Nat × am_M) := [(109, (none, 1, fX9_isNoNumber)), (112, (none, 3, fX9_cutOf))]
noncomputable def GX9_lightBy : am_G := (am_al FX9, am_al KX9, am_al SX9, am_al MX9_lightBy)
noncomputable def fX9_lightBy : List Value → am_H → am_R := am_fn 0 GX9_lightBy cX9_lightBy 1
theorem kX9_lightBy (l : Launch) (D : va_G) (ad : Nat → Nat) (cA : Nat → ClassId) (A : Nat → Prop) (hlay : am_lays) : am_Met l D ad cA A yX9_lightBy cX9_lightBy 1 (some .int) { frames := 2, cells := 0, slots := 0, locals := 46 } fX9_lightBy := by
  have hm : ∀ e ∈ MX9_lightBy, am_cc l D ad cA A yX9_lightBy.cls { frames := 2, cells := 0, slots := 0, locals := 46 } e.1 e.2 := List.forall_mem_cons.mpr ⟨Or.inr (Or.inl ⟨yX9_isNoNumber, cX9_isNoNumber, 1, (some .boolean), { frames := 1, cells := 0, slots := 0, locals := 20 }, fX9_isNoNumber, 1, rfl, kX9_isNoNumber l D ad cA A hlay, ⟨wd_902, wd_64, wd_900, by decide +kernel⟩, wd_901, rfl, rfl, by decide, by decide⟩), List.forall_mem_cons.mpr ⟨Or.inr (Or.inl ⟨yX9_cutOf, cX9_cutOf, 7, (some .int), { frames := 1, cells := 0, slots := 0, locals := 20 }, fX9_cutOf, 3, rfl, kX9_cutOf l D ad cA A hlay, ⟨wd_912, wd_64, wd_910, by decide +kernel⟩, wd_911, rfl, rfl, by decide, by decide⟩), fun _ h => absurd h List.not_mem_nil⟩⟩
  exact am_meth (G := GX9_lightBy) (rk := 0) (plainFor_of_name (by decide)) hlay (fun i z h => okF_X9 _ (am_al_in h)) (fun i z h => okK_X9 _ (am_al_in h)) (fun i z h => okS_X9 _ (am_al_in h)) (Or.inl ⟨rfl, rfl⟩) (fun i z h => hm _ (am_al_in h))
theorem lX9_lightBy_109 : GX9_lightBy.2.2.2 109 = some (none, 1, fX9_isNoNumber) := rfl
theorem lX9_lightBy_112 : GX9_lightBy.2.2.2 112 = some (none, 3, fX9_cutOf) := rfl
noncomputable def MX9_light : List (Nat × am_M) := [(90, (none, 1, fX9_isPlate)), (94, (some 9, 2, fX9_isThing)), (116, (none, 1, fX9_lightBy))]
noncomputable def GX9_light : am_G := (am_al FX9, am_al KX9, am_al SX9, am_al MX9_light)
noncomputable def fX9_light : List Value → am_H → am_R := am_fn 0 GX9_light cX9_light 6
theorem kX9_light (l : Launch) (D : va_G) (ad : Nat → Nat) (cA : Nat → ClassId) (A : Nat → Prop) (hlay : am_lays) : am_Met l D ad cA A yX9_light cX9_light 6 (some .int) { frames := 3, cells := 0, slots := 0, locals := 66 } fX9_light := by
  have hm : ∀ e ∈ MX9_light, am_cc l D ad cA A yX9_light.cls { frames := 3, cells := 0, slots := 0, locals := 66 } e.1 e.2 := List.forall_mem_cons.mpr ⟨Or.inr (Or.inl ⟨yX9_isPlate, cX9_isPlate, 1, (some .boolean), { frames := 1, cells := 0, slots := 0, locals := 22 }, fX9_isPlate, 1, rfl, kX9_isPlate l D ad cA A hlay, ⟨wd_872, wd_64, wd_870, by decide +kernel⟩, wd_871, rfl, rfl, by decide, by decide⟩), List.forall_mem_cons.mpr ⟨Or.inl ⟨yX9_isThing, cX9_isThing, 3, (some .boolean), { frames := 1, cells := 0, slots := 0, locals := 22 }, fX9_isThing, 2, 9, TX9, 39, rfl, kX9_isThing l D ad cA A hlay, ⟨wd_884, wd_64, wd_881, by decide +kernel⟩, wd_883, wd_28, rfl, by decide, rfl, rfl, by decide, by decide⟩, List.forall_mem_cons.mpr ⟨Or.inr (Or.inl ⟨yX9_lightBy, cX9_lightBy, 1, (some .int), { frames := 2, cells := 0, slots := 0, locals := 46 }, fX9_lightBy, 1, rfl, kX9_lightBy l D ad cA A hlay, ⟨wd_899, wd_64, wd_897, by decide +kernel⟩, wd_898, rfl, rfl, by decide, by decide⟩), fun _ h => absurd h List.not_mem_nil⟩⟩⟩
  exact am_meth (G := GX9_light) (rk := 0) (plainFor_of_name (by decide)) hlay (fun i z h => okF_X9 _ (am_al_in h)) (fun i z h => okK_X9 _ (am_al_in h)) (fun i z h => okS_X9 _ (am_al_in h)) (Or.inl ⟨rfl, rfl⟩) (fun i z h => hm _ (am_al_in h))
theorem lX9_light_90 : GX9_light.2.2.2 90 = some (none, 1, fX9_isPlate) := rfl
theorem lX9_light_94 : GX9_light.2.2.2 94 = some (some 9, 2, fX9_isThing) := rfl
theorem lX9_light_19 : GX9_light.1 19 = some (9, 3) := rfl
theorem lX9_light_116 : GX9_light.2.2.2 116 = some (none, 1, fX9_lightBy) := rfl
noncomputable def MX9_word : List (Nat × am_M) := []
noncomputable def GX9_word : am_G := (am_al FX9, am_al KX9, am_al SX9, am_al MX9_word)
noncomputable def fX9_word : List Value → am_H → am_R := am_fn 0 GX9_word cX9_word 12
theorem kX9_word (l : Launch) (D : va_G) (ad : Nat → Nat) (cA : Nat → ClassId) (A : Nat → Prop) (hlay : am_lays) : am_Met l D ad cA A yX9_word cX9_word 12 (some .int) { frames := 0, cells := 0, slots := 0, locals := 0 } fX9_word := by
  have hm : ∀ e ∈ MX9_word, am_cc l D ad cA A yX9_word.cls { frames := 0, cells := 0, slots := 0, locals := 0 } e.1 e.2 := fun _ h => absurd h List.not_mem_nil
  exact am_meth (G := GX9_word) (rk := 0) (plainFor_of_name (by decide)) hlay (fun i z h => okF_X9 _ (am_al_in h)) (fun i z h => okK_X9 _ (am_al_in h)) (fun i z h => okS_X9 _ (am_al_in h)) (Or.inl ⟨rfl, rfl⟩) (fun i z h => hm _ (am_al_in h))
theorem lX9_word_119 : GX9_word.2.1 119 = some (.long (2)) := rfl
theorem lX9_word_121 : GX9_word.2.1 121 = some (.long (16777216)) := rfl
theorem lX9_word_123 : GX9_word.2.1 123 = some (.long (8388608)) := rfl
theorem lX9_word_125 : GX9_word.2.1 125 = some (.int (-2147483648)) := rfl
noncomputable def MX9_number : List (Nat × am_M) := [(109, (none, 1, fX9_isNoNumber)), (102, (none, 1, fX9_exponentOf)), (112, (none, 3, fX9_cutOf))]
noncomputable def GX9_number : am_G := (am_al FX9, am_al KX9, am_al SX9, am_al MX9_number)
noncomputable def fX9_number : List Value → am_H → am_R := am_fn 0 GX9_number cX9_number 4
theorem kX9_number (l : Launch) (D : va_G) (ad : Nat → Nat) (cA : Nat → ClassId) (A : Nat → Prop) (hlay : am_lays) : am_Met l D ad cA A yX9_number cX9_number 4 (some .int) { frames := 2, cells := 0, slots := 0, locals := 46 } fX9_number := by
  have hm : ∀ e ∈ MX9_number, am_cc l D ad cA A yX9_number.cls { frames := 2, cells := 0, slots := 0, locals := 46 } e.1 e.2 := List.forall_mem_cons.mpr ⟨Or.inr (Or.inl ⟨yX9_isNoNumber, cX9_isNoNumber, 1, (some .boolean), { frames := 1, cells := 0, slots := 0, locals := 20 }, fX9_isNoNumber, 1, rfl, kX9_isNoNumber l D ad cA A hlay, ⟨wd_902, wd_64, wd_900, by decide +kernel⟩, wd_901, rfl, rfl, by decide, by decide⟩), List.forall_mem_cons.mpr ⟨Or.inr (Or.inl ⟨yX9_exponentOf, cX9_exponentOf, 1, (some .int), { frames := 0, cells := 0, slots := 0, locals := 0 }, fX9_exponentOf, 1, rfl, kX9_exponentOf l D ad cA A hlay, ⟨wd_905, wd_64, wd_903, by decide +kernel⟩, wd_904, rfl, rfl, by decide, by decide⟩), List.forall_mem_cons.mpr ⟨Or.inr (Or.inl ⟨yX9_cutOf, cX9_cutOf, 7, (some .int), { frames := 1, cells := 0, slots := 0, locals := 20 }, fX9_cutOf, 3, rfl, kX9_cutOf l D ad cA A hlay, ⟨wd_912, wd_64, wd_910, by decide +kernel⟩, wd_911, rfl, rfl, by decide, by decide⟩), fun _ h => absurd h List.not_mem_nil⟩⟩⟩
  exact am_meth (G := GX9_number) (rk := 0) (plainFor_of_name (by decide)) hlay (fun i z h => okF_X9 _ (am_al_in h)) (fun i z h => okK_X9 _ (am_al_in h)) (fun i z h => okS_X9 _ (am_al_in h)) (Or.inl ⟨rfl, rfl⟩) (fun i z h => hm _ (am_al_in h))
theorem lX9_number_109 : GX9_number.2.2.2 109 = some (none, 1, fX9_isNoNumber) := rfl
theorem lX9_number_102 : GX9_number.2.2.2 102 = some (none, 1, fX9_exponentOf) := rfl
theorem lX9_number_125 : GX9_number.2.1 125 = some (.int (-2147483648)) := rfl
theorem lX9_number_126 : GX9_number.2.1 126 = some (.int (2147483647)) := rfl
theorem lX9_number_112 : GX9_number.2.2.2 112 = some (none, 3, fX9_cutOf) := rfl
noncomputable def MX9_set : List (Nat × am_M) := [(75, (none, 3, fX9_within))]
noncomputable def GX9_set : am_G := (am_al FX9, am_al KX9, am_al SX9, am_al MX9_set)
noncomputable def fX9_set : List Value → am_H → am_R := am_fn 0 GX9_set cX9_set 5
theorem kX9_set (l : Launch) (D : va_G) (ad : Nat → Nat) (cA : Nat → ClassId) (A : Nat → Prop) (hlay : am_lays) : am_Met l D ad cA A yX9_set cX9_set 5 (some .int) { frames := 1, cells := 0, slots := 0, locals := 22 } fX9_set := by
  have hm : ∀ e ∈ MX9_set, am_cc l D ad cA A yX9_set.cls { frames := 1, cells := 0, slots := 0, locals := 22 } e.1 e.2 := List.forall_mem_cons.mpr ⟨Or.inr (Or.inl ⟨yX9_within, cX9_within, 3, (some .boolean), { frames := 0, cells := 0, slots := 0, locals := 0 }, fX9_within, 3, rfl, kX9_within l D ad cA A hlay, ⟨wd_849, wd_64, wd_847, by decide +kernel⟩, wd_848, rfl, rfl, by decide, by decide⟩), fun _ h => absurd h List.not_mem_nil⟩
  exact am_meth (G := GX9_set) (rk := 0) (plainFor_of_name (by decide)) hlay (fun i z h => okF_X9 _ (am_al_in h)) (fun i z h => okK_X9 _ (am_al_in h)) (fun i z h => okS_X9 _ (am_al_in h)) (Or.inl ⟨rfl, rfl⟩) (fun i z h => hm _ (am_al_in h))
theorem lX9_set_75 : GX9_set.2.2.2 75 = some (none, 3, fX9_within) := rfl
theorem lX9_set_127 : GX9_set.2.1 127 = some (.int (1000000)) := rfl
theorem lX9_set_128 : GX9_set.2.1 128 = some (.int (10000000)) := rfl
theorem lX9_set_23 : GX9_set.1 23 = some (9, 4) := rfl
noncomputable def MX9_side : List (Nat × am_M) := []
noncomputable def GX9_side : am_G := (am_al FX9, am_al KX9, am_al SX9, am_al MX9_side)
noncomputable def fX9_side : List Value → am_H → am_R := am_fn 2 GX9_side cX9_side 8
theorem kX9_side (l : Launch) (D : va_G) (ad : Nat → Nat) (cA : Nat → ClassId) (A : Nat → Prop) (hlay : am_lays) : am_Met l D ad cA A yX9_side cX9_side 8 (some .long) { frames := 0, cells := 0, slots := 0, locals := 0 } fX9_side := by
  have hm : ∀ e ∈ MX9_side, am_cc l D ad cA A yX9_side.cls { frames := 0, cells := 0, slots := 0, locals := 0 } e.1 e.2 := fun _ h => absurd h List.not_mem_nil
  exact am_meth (G := GX9_side) (rk := 2) (plainFor_of_name (by decide)) hlay (fun i z h => okF_X9 _ (am_al_in h)) (fun i z h => okK_X9 _ (am_al_in h)) (fun i z h => okS_X9 _ (am_al_in h)) (Or.inr (Or.inr (Or.inl ⟨rfl, rfl⟩))) (fun i z h => hm _ (am_al_in h))
theorem lX9_side_13 : GX9_side.1 13 = some (9, 1) := rfl
theorem lX9_side_16 : GX9_side.1 16 = some (9, 2) := rfl
noncomputable def MX9_twist : List (Nat × am_M) := []
noncomputable def GX9_twist : am_G := (am_al FX9, am_al KX9, am_al SX9, am_al MX9_twist)
noncomputable def fX9_twist : List Value → am_H → am_R := am_fn 2 GX9_twist cX9_twist 8
theorem kX9_twist (l : Launch) (D : va_G) (ad : Nat → Nat) (cA : Nat → ClassId) (A : Nat → Prop) (hlay : am_lays) : am_Met l D ad cA A yX9_twist cX9_twist 8 (some .long) { frames := 0, cells := 0, slots := 0, locals := 0 } fX9_twist := by
  have hm : ∀ e ∈ MX9_twist, am_cc l D ad cA A yX9_twist.cls { frames := 0, cells := 0, slots := 0, locals := 0 } e.1 e.2 := fun _ h => absurd h List.not_mem_nil
  exact am_meth (G := GX9_twist) (rk := 2) (plainFor_of_name (by decide)) hlay (fun i z h => okF_X9 _ (am_al_in h)) (fun i z h => okK_X9 _ (am_al_in h)) (fun i z h => okS_X9 _ (am_al_in h)) (Or.inr (Or.inr (Or.inl ⟨rfl, rfl⟩))) (fun i z h => hm _ (am_al_in h))
theorem lX9_twist_13 : GX9_twist.1 13 = some (9, 1) := rfl
theorem lX9_twist_16 : GX9_twist.1 16 = some (9, 2) := rfl
noncomputable def MX9_findTriple : List (Nat × am_M) := [(129, (some 9, 3, fX9_side)), (137, (some 9, 4, fX9_twist))]
noncomputable def GX9_findTriple : am_G := (am_al FX9, am_al KX9, am_al SX9, am_al MX9_findTriple)
noncomputable def fX9_findTriple : List Value → am_H → am_R := am_fn 3 GX9_findTriple cX9_findTriple 17
theorem kX9_findTriple (l : Launch) (D : va_G) (ad : Nat → Nat) (cA : Nat → ClassId) (A : Nat → Prop) (hlay : am_lays) : am_Met l D ad cA A yX9_findTriple cX9_findTriple 17 none { frames := 1, cells := 0, slots := 0, locals := 27 } fX9_findTriple := by
  have hm : ∀ e ∈ MX9_findTriple, am_cc l D ad cA A yX9_findTriple.cls { frames := 1, cells := 0, slots := 0, locals := 27 } e.1 e.2 := List.forall_mem_cons.mpr ⟨Or.inl ⟨yX9_side, cX9_side, 8, (some .long), { frames := 0, cells := 0, slots := 0, locals := 0 }, fX9_side, 3, 9, TX9, 39, rfl, kX9_side l D ad cA A hlay, ⟨wd_948, wd_64, wd_945, by decide +kernel⟩, wd_947, wd_32, rfl, by decide, rfl, rfl, by decide, by decide⟩, List.forall_mem_cons.mpr ⟨Or.inl ⟨yX9_twist, cX9_twist, 8, (some .long), { frames := 0, cells := 0, slots := 0, locals := 0 }, fX9_twist, 4, 9, TX9, 39, rfl, kX9_twist l D ad cA A hlay, ⟨wd_952, wd_64, wd_949, by decide +kernel⟩, wd_951, wd_33, rfl, by decide, rfl, rfl, by decide, by decide⟩, fun _ h => absurd h List.not_mem_nil⟩⟩
  exact am_meth (G := GX9_findTriple) (rk := 3) (plainFor_of_name (by decide)) hlay (fun i z h => okF_X9 _ (am_al_in h)) (fun i z h => okK_X9 _ (am_al_in h)) (fun i z h => okS_X9 _ (am_al_in h)) (Or.inr (Or.inr (Or.inr ⟨rfl, rfl⟩))) (fun i z h => hm _ (am_al_in h))
theorem lX9_findTriple_129 : GX9_findTriple.2.2.2 129 = some (some 9, 3, fX9_side) := rfl
theorem lX9_findTriple_133 : GX9_findTriple.1 133 = some (9, 10) := rfl
theorem lX9_findTriple_137 : GX9_findTriple.2.2.2 137 = some (some 9, 4, fX9_twist) := rfl
theorem lX9_findTriple_141 : GX9_findTriple.1 141 = some (9, 5) := rfl
theorem lX9_findTriple_144 : GX9_findTriple.1 144 = some (9, 6) := rfl
theorem lX9_findTriple_147 : GX9_findTriple.1 147 = some (9, 7) := rfl
theorem lX9_findTriple_150 : GX9_findTriple.2.1 150 = some (.long (200)) := rfl
theorem lX9_findTriple_152 : GX9_findTriple.1 152 = some (9, 8) := rfl
theorem lX9_findTriple_155 : GX9_findTriple.1 155 = some (9, 9) := rfl
noncomputable def MX9_areThree : List (Nat × am_M) := [(94, (some 9, 2, fX9_isThing))]
noncomputable def GX9_areThree : am_G := (am_al FX9, am_al KX9, am_al SX9, am_al MX9_areThree)
noncomputable def fX9_areThree : List Value → am_H → am_R := am_fn 1 GX9_areThree cX9_areThree 5
theorem kX9_areThree (l : Launch) (D : va_G) (ad : Nat → Nat) (cA : Nat → ClassId) (A : Nat → Prop) (hlay : am_lays) : am_Met l D ad cA A yX9_areThree cX9_areThree 5 (some .boolean) { frames := 2, cells := 0, slots := 0, locals := 44 } fX9_areThree := by
  have hm : ∀ e ∈ MX9_areThree, am_cc l D ad cA A yX9_areThree.cls { frames := 2, cells := 0, slots := 0, locals := 44 } e.1 e.2 := List.forall_mem_cons.mpr ⟨Or.inl ⟨yX9_isThing, cX9_isThing, 3, (some .boolean), { frames := 1, cells := 0, slots := 0, locals := 22 }, fX9_isThing, 2, 9, TX9, 39, rfl, kX9_isThing l D ad cA A hlay, ⟨wd_884, wd_64, wd_881, by decide +kernel⟩, wd_883, wd_28, rfl, by decide, rfl, rfl, by decide, by decide⟩, fun _ h => absurd h List.not_mem_nil⟩
  exact am_meth (G := GX9_areThree) (rk := 1) (plainFor_of_name (by decide)) hlay (fun i z h => okF_X9 _ (am_al_in h)) (fun i z h => okK_X9 _ (am_al_in h)) (fun i z h => okS_X9 _ (am_al_in h)) (Or.inr (Or.inl ⟨rfl, rfl⟩)) (fun i z h => hm _ (am_al_in h))
theorem lX9_areThree_94 : GX9_areThree.2.2.2 94 = some (some 9, 2, fX9_isThing) := rfl
noncomputable def MX9_triple : List (Nat × am_M) := [(75, (none, 3, fX9_within)), (158, (some 9, 4, fX9_areThree)), (162, (some 9, 4, fX9_findTriple))]
noncomputable def GX9_triple : am_G := (am_al FX9, am_al KX9, am_al SX9, am_al MX9_triple)
noncomputable def fX9_triple : List Value → am_H → am_R := am_fn 0 GX9_triple cX9_triple 6
theorem kX9_triple (l : Launch) (D : va_G) (ad : Nat → Nat) (cA : Nat → ClassId) (A : Nat → Prop) (hlay : am_lays) : am_Met l D ad cA A yX9_triple cX9_triple 6 (some .int) { frames := 3, cells := 0, slots := 0, locals := 68 } fX9_triple := by
  have hm : ∀ e ∈ MX9_triple, am_cc l D ad cA A yX9_triple.cls { frames := 3, cells := 0, slots := 0, locals := 68 } e.1 e.2 := List.forall_mem_cons.mpr ⟨Or.inr (Or.inl ⟨yX9_within, cX9_within, 3, (some .boolean), { frames := 0, cells := 0, slots := 0, locals := 0 }, fX9_within, 3, rfl, kX9_within l D ad cA A hlay, ⟨wd_849, wd_64, wd_847, by decide +kernel⟩, wd_848, rfl, rfl, by decide, by decide⟩), List.forall_mem_cons.mpr ⟨Or.inl ⟨yX9_areThree, cX9_areThree, 5, (some .boolean), { frames := 2, cells := 0, slots := 0, locals := 44 }, fX9_areThree, 4, 9, TX9, 39, rfl, kX9_areThree l D ad cA A hlay, ⟨wd_940, wd_64, wd_937, by decide +kernel⟩, wd_939, wd_30, rfl, by decide, rfl, rfl, by decide, by decide⟩, List.forall_mem_cons.mpr ⟨Or.inl ⟨yX9_findTriple, cX9_findTriple, 17, none, { frames := 1, cells := 0, slots := 0, locals := 27 }, fX9_findTriple, 4, 9, TX9, 39, rfl, kX9_findTriple l D ad cA A hlay, ⟨wd_944, wd_64, wd_941, by decide +kernel⟩, wd_943, wd_31, rfl, by decide, rfl, rfl, by decide, by decide⟩, fun _ h => absurd h List.not_mem_nil⟩⟩⟩
  exact am_meth (G := GX9_triple) (rk := 0) (plainFor_of_name (by decide)) hlay (fun i z h => okF_X9 _ (am_al_in h)) (fun i z h => okK_X9 _ (am_al_in h)) (fun i z h => okS_X9 _ (am_al_in h)) (Or.inl ⟨rfl, rfl⟩) (fun i z h => hm _ (am_al_in h))
theorem lX9_triple_75 : GX9_triple.2.2.2 75 = some (none, 3, fX9_within) := rfl
theorem lX9_triple_158 : GX9_triple.2.2.2 158 = some (some 9, 4, fX9_areThree) := rfl
theorem lX9_triple_162 : GX9_triple.2.2.2 162 = some (some 9, 4, fX9_findTriple) := rfl
theorem lX9_triple_133 : GX9_triple.1 133 = some (9, 10) := rfl
theorem lX9_triple_152 : GX9_triple.1 152 = some (9, 8) := rfl
theorem lX9_triple_155 : GX9_triple.1 155 = some (9, 9) := rfl
theorem lX9_triple_141 : GX9_triple.1 141 = some (9, 5) := rfl
theorem lX9_triple_144 : GX9_triple.1 144 = some (9, 6) := rfl
theorem lX9_triple_147 : GX9_triple.1 147 = some (9, 7) := rfl
noncomputable def MX9_puts : List (Nat × am_M) := []
noncomputable def GX9_puts : am_G := (am_al FX9, am_al KX9, am_al SX9, am_al MX9_puts)
noncomputable def fX9_puts : List Value → am_H → am_R := am_fn 3 GX9_puts cX9_puts 8
theorem kX9_puts (l : Launch) (D : va_G) (ad : Nat → Nat) (cA : Nat → ClassId) (A : Nat → Prop) (hlay : am_lays) : am_Met l D ad cA A yX9_puts cX9_puts 8 none { frames := 0, cells := 0, slots := 0, locals := 0 } fX9_puts := by
  have hm : ∀ e ∈ MX9_puts, am_cc l D ad cA A yX9_puts.cls { frames := 0, cells := 0, slots := 0, locals := 0 } e.1 e.2 := fun _ h => absurd h List.not_mem_nil
  exact am_meth (G := GX9_puts) (rk := 3) (plainFor_of_name (by decide)) hlay (fun i z h => okF_X9 _ (am_al_in h)) (fun i z h => okK_X9 _ (am_al_in h)) (fun i z h => okS_X9 _ (am_al_in h)) (Or.inr (Or.inr (Or.inr ⟨rfl, rfl⟩))) (fun i z h => hm _ (am_al_in h))
noncomputable def MX9_layTriples : List (Nat × am_M) := [(162, (some 9, 4, fX9_findTriple)), (166, (none, 8, fX9_puts))]
noncomputable def GX9_layTriples : am_G := (am_al FX9, am_al KX9, am_al SX9, am_al MX9_layTriples)
noncomputable def fX9_layTriples : List Value → am_H → am_R := am_fn 0 GX9_layTriples cX9_layTriples 7
theorem kX9_layTriples (l : Launch) (D : va_G) (ad : Nat → Nat) (cA : Nat → ClassId) (A : Nat → Prop) (hlay : am_lays) : am_Met l D ad cA A yX9_layTriples cX9_layTriples 7 (some .int) { frames := 2, cells := 0, slots := 0, locals := 63 } fX9_layTriples := by
  have hm : ∀ e ∈ MX9_layTriples, am_cc l D ad cA A yX9_layTriples.cls { frames := 2, cells := 0, slots := 0, locals := 63 } e.1 e.2 := List.forall_mem_cons.mpr ⟨Or.inl ⟨yX9_findTriple, cX9_findTriple, 17, none, { frames := 1, cells := 0, slots := 0, locals := 27 }, fX9_findTriple, 4, 9, TX9, 39, rfl, kX9_findTriple l D ad cA A hlay, ⟨wd_944, wd_64, wd_941, by decide +kernel⟩, wd_943, wd_31, rfl, by decide, rfl, rfl, by decide, by decide⟩, List.forall_mem_cons.mpr ⟨Or.inr (Or.inl ⟨yX9_puts, cX9_puts, 8, none, { frames := 0, cells := 0, slots := 0, locals := 0 }, fX9_puts, 8, rfl, kX9_puts l D ad cA A hlay, ⟨wd_968, wd_64, wd_966, by decide +kernel⟩, wd_967, rfl, rfl, by decide, by decide⟩), fun _ h => absurd h List.not_mem_nil⟩⟩
  exact am_meth (G := GX9_layTriples) (rk := 0) (plainFor_of_name (by decide)) hlay (fun i z h => okF_X9 _ (am_al_in h)) (fun i z h => okK_X9 _ (am_al_in h)) (fun i z h => okS_X9 _ (am_al_in h)) (Or.inl ⟨rfl, rfl⟩) (fun i z h => hm _ (am_al_in h))
theorem lX9_layTriples_7 : GX9_layTriples.1 7 = some (9, 0) := rfl
theorem lX9_layTriples_162 : GX9_layTriples.2.2.2 162 = some (some 9, 4, fX9_findTriple) := rfl
theorem lX9_layTriples_133 : GX9_layTriples.1 133 = some (9, 10) := rfl
theorem lX9_layTriples_152 : GX9_layTriples.1 152 = some (9, 8) := rfl
theorem lX9_layTriples_155 : GX9_layTriples.1 155 = some (9, 9) := rfl
theorem lX9_layTriples_141 : GX9_layTriples.1 141 = some (9, 5) := rfl
theorem lX9_layTriples_144 : GX9_layTriples.1 144 = some (9, 6) := rfl
theorem lX9_layTriples_147 : GX9_layTriples.1 147 = some (9, 7) := rfl
theorem lX9_layTriples_166 : GX9_layTriples.2.2.2 166 = some (none, 8, fX9_puts) := rfl
noncomputable def MX9_areNear : List (Nat × am_M) := [(75, (none, 3, fX9_within))]
noncomputable def GX9_areNear : am_G := (am_al FX9, am_al KX9, am_al SX9, am_al MX9_areNear)
noncomputable def fX9_areNear : List Value → am_H → am_R := am_fn 1 GX9_areNear cX9_areNear 3
theorem kX9_areNear (l : Launch) (D : va_G) (ad : Nat → Nat) (cA : Nat → ClassId) (A : Nat → Prop) (hlay : am_lays) : am_Met l D ad cA A yX9_areNear cX9_areNear 3 (some .boolean) { frames := 1, cells := 0, slots := 0, locals := 22 } fX9_areNear := by
  have hm : ∀ e ∈ MX9_areNear, am_cc l D ad cA A yX9_areNear.cls { frames := 1, cells := 0, slots := 0, locals := 22 } e.1 e.2 := List.forall_mem_cons.mpr ⟨Or.inr (Or.inl ⟨yX9_within, cX9_within, 3, (some .boolean), { frames := 0, cells := 0, slots := 0, locals := 0 }, fX9_within, 3, rfl, kX9_within l D ad cA A hlay, ⟨wd_849, wd_64, wd_847, by decide +kernel⟩, wd_848, rfl, rfl, by decide, by decide⟩), fun _ h => absurd h List.not_mem_nil⟩
  exact am_meth (G := GX9_areNear) (rk := 1) (plainFor_of_name (by decide)) hlay (fun i z h => okF_X9 _ (am_al_in h)) (fun i z h => okK_X9 _ (am_al_in h)) (fun i z h => okS_X9 _ (am_al_in h)) (Or.inr (Or.inl ⟨rfl, rfl⟩)) (fun i z h => hm _ (am_al_in h))
theorem lX9_areNear_23 : GX9_areNear.1 23 = some (9, 4) := rfl
theorem lX9_areNear_75 : GX9_areNear.2.2.2 75 = some (none, 3, fX9_within) := rfl
noncomputable def MX9_areAlike : List (Nat × am_M) := [(170, (some 9, 2, fX9_areNear))]
noncomputable def GX9_areAlike : am_G := (am_al FX9, am_al KX9, am_al SX9, am_al MX9_areAlike)
noncomputable def fX9_areAlike : List Value → am_H → am_R := am_fn 1 GX9_areAlike cX9_areAlike 3
theorem kX9_areAlike (l : Launch) (D : va_G) (ad : Nat → Nat) (cA : Nat → ClassId) (A : Nat → Prop) (hlay : am_lays) : am_Met l D ad cA A yX9_areAlike cX9_areAlike 3 (some .boolean) { frames := 2, cells := 0, slots := 0, locals := 44 } fX9_areAlike := by
  have hm : ∀ e ∈ MX9_areAlike, am_cc l D ad cA A yX9_areAlike.cls { frames := 2, cells := 0, slots := 0, locals := 44 } e.1 e.2 := List.forall_mem_cons.mpr ⟨Or.inl ⟨yX9_areNear, cX9_areNear, 3, (some .boolean), { frames := 1, cells := 0, slots := 0, locals := 22 }, fX9_areNear, 2, 9, TX9, 39, rfl, kX9_areNear l D ad cA A hlay, ⟨wd_976, wd_64, wd_973, by decide +kernel⟩, wd_975, wd_37, rfl, by decide, rfl, rfl, by decide, by decide⟩, fun _ h => absurd h List.not_mem_nil⟩
  exact am_meth (G := GX9_areAlike) (rk := 1) (plainFor_of_name (by decide)) hlay (fun i z h => okF_X9 _ (am_al_in h)) (fun i z h => okK_X9 _ (am_al_in h)) (fun i z h => okS_X9 _ (am_al_in h)) (Or.inr (Or.inl ⟨rfl, rfl⟩)) (fun i z h => hm _ (am_al_in h))
theorem lX9_areAlike_26 : GX9_areAlike.1 26 = some (9, 12) := rfl
theorem lX9_areAlike_29 : GX9_areAlike.1 29 = some (9, 14) := rfl
theorem lX9_areAlike_170 : GX9_areAlike.2.2.2 170 = some (some 9, 2, fX9_areNear) := rfl
noncomputable def MX9_findVotes : List (Nat × am_M) := [(173, (some 9, 2, fX9_layTriples)), (186, (some 9, 2, fX9_areAlike))]
noncomputable def GX9_findVotes : am_G := (am_al FX9, am_al KX9, am_al SX9, am_al MX9_findVotes)
noncomputable def fX9_findVotes : List Value → am_H → am_R := am_fn 3 GX9_findVotes cX9_findVotes 6
theorem kX9_findVotes (l : Launch) (D : va_G) (ad : Nat → Nat) (cA : Nat → ClassId) (A : Nat → Prop) (hlay : am_lays) : am_Met l D ad cA A yX9_findVotes cX9_findVotes 6 none { frames := 3, cells := 0, slots := 0, locals := 89 } fX9_findVotes := by
  have hm : ∀ e ∈ MX9_findVotes, am_cc l D ad cA A yX9_findVotes.cls { frames := 3, cells := 0, slots := 0, locals := 89 } e.1 e.2 := List.forall_mem_cons.mpr ⟨Or.inl ⟨yX9_layTriples, cX9_layTriples, 7, (some .int), { frames := 2, cells := 0, slots := 0, locals := 63 }, fX9_layTriples, 2, 9, TX9, 39, rfl, kX9_layTriples l D ad cA A hlay, ⟨wd_965, wd_64, wd_962, by decide +kernel⟩, wd_964, wd_35, rfl, by decide, rfl, rfl, by decide, by decide⟩, List.forall_mem_cons.mpr ⟨Or.inl ⟨yX9_areAlike, cX9_areAlike, 3, (some .boolean), { frames := 2, cells := 0, slots := 0, locals := 44 }, fX9_areAlike, 2, 9, TX9, 39, rfl, kX9_areAlike l D ad cA A hlay, ⟨wd_972, wd_64, wd_969, by decide +kernel⟩, wd_971, wd_36, rfl, by decide, rfl, rfl, by decide, by decide⟩, fun _ h => absurd h List.not_mem_nil⟩⟩
  exact am_meth (G := GX9_findVotes) (rk := 3) (plainFor_of_name (by decide)) hlay (fun i z h => okF_X9 _ (am_al_in h)) (fun i z h => okK_X9 _ (am_al_in h)) (fun i z h => okS_X9 _ (am_al_in h)) (Or.inr (Or.inr (Or.inr ⟨rfl, rfl⟩))) (fun i z h => hm _ (am_al_in h))
theorem lX9_findVotes_26 : GX9_findVotes.1 26 = some (9, 12) := rfl
theorem lX9_findVotes_173 : GX9_findVotes.2.2.2 173 = some (some 9, 2, fX9_layTriples) := rfl
theorem lX9_findVotes_177 : GX9_findVotes.1 177 = some (9, 11) := rfl
theorem lX9_findVotes_29 : GX9_findVotes.1 29 = some (9, 14) := rfl
theorem lX9_findVotes_180 : GX9_findVotes.1 180 = some (9, 13) := rfl
theorem lX9_findVotes_183 : GX9_findVotes.1 183 = some (9, 15) := rfl
theorem lX9_findVotes_32 : GX9_findVotes.1 32 = some (9, 16) := rfl
theorem lX9_findVotes_186 : GX9_findVotes.2.2.2 186 = some (some 9, 2, fX9_areAlike) := rfl
noncomputable def MX9_alike : List (Nat × am_M) := [(90, (none, 1, fX9_isPlate)), (189, (some 9, 1, fX9_findVotes))]
noncomputable def GX9_alike : am_G := (am_al FX9, am_al KX9, am_al SX9, am_al MX9_alike)
noncomputable def fX9_alike : List Value → am_H → am_R := am_fn 0 GX9_alike cX9_alike 2
theorem kX9_alike (l : Launch) (D : va_G) (ad : Nat → Nat) (cA : Nat → ClassId) (A : Nat → Prop) (hlay : am_lays) : am_Met l D ad cA A yX9_alike cX9_alike 2 (some .int) { frames := 4, cells := 0, slots := 0, locals := 114 } fX9_alike := by
  have hm : ∀ e ∈ MX9_alike, am_cc l D ad cA A yX9_alike.cls { frames := 4, cells := 0, slots := 0, locals := 114 } e.1 e.2 := List.forall_mem_cons.mpr ⟨Or.inr (Or.inl ⟨yX9_isPlate, cX9_isPlate, 1, (some .boolean), { frames := 1, cells := 0, slots := 0, locals := 22 }, fX9_isPlate, 1, rfl, kX9_isPlate l D ad cA A hlay, ⟨wd_872, wd_64, wd_870, by decide +kernel⟩, wd_871, rfl, rfl, by decide, by decide⟩), List.forall_mem_cons.mpr ⟨Or.inl ⟨yX9_findVotes, cX9_findVotes, 6, none, { frames := 3, cells := 0, slots := 0, locals := 89 }, fX9_findVotes, 1, 9, TX9, 39, rfl, kX9_findVotes l D ad cA A hlay, ⟨wd_961, wd_64, wd_958, by decide +kernel⟩, wd_960, wd_34, rfl, by decide, rfl, rfl, by decide, by decide⟩, fun _ h => absurd h List.not_mem_nil⟩⟩
  exact am_meth (G := GX9_alike) (rk := 0) (plainFor_of_name (by decide)) hlay (fun i z h => okF_X9 _ (am_al_in h)) (fun i z h => okK_X9 _ (am_al_in h)) (fun i z h => okS_X9 _ (am_al_in h)) (Or.inl ⟨rfl, rfl⟩) (fun i z h => hm _ (am_al_in h))
theorem lX9_alike_90 : GX9_alike.2.2.2 90 = some (none, 1, fX9_isPlate) := rfl
theorem lX9_alike_189 : GX9_alike.2.2.2 189 = some (some 9, 1, fX9_findVotes) := rfl
theorem lX9_alike_183 : GX9_alike.1 183 = some (9, 15) := rfl
noncomputable def MX9_votes : List (Nat × am_M) := [(90, (none, 1, fX9_isPlate)), (94, (some 9, 2, fX9_isThing)), (189, (some 9, 1, fX9_findVotes))]
noncomputable def GX9_votes : am_G := (am_al FX9, am_al KX9, am_al SX9, am_al MX9_votes)
noncomputable def fX9_votes : List Value → am_H → am_R := am_fn 0 GX9_votes cX9_votes 4
theorem kX9_votes (l : Launch) (D : va_G) (ad : Nat → Nat) (cA : Nat → ClassId) (A : Nat → Prop) (hlay : am_lays) : am_Met l D ad cA A yX9_votes cX9_votes 4 (some .int) { frames := 4, cells := 0, slots := 0, locals := 114 } fX9_votes := by
  have hm : ∀ e ∈ MX9_votes, am_cc l D ad cA A yX9_votes.cls { frames := 4, cells := 0, slots := 0, locals := 114 } e.1 e.2 := List.forall_mem_cons.mpr ⟨Or.inr (Or.inl ⟨yX9_isPlate, cX9_isPlate, 1, (some .boolean), { frames := 1, cells := 0, slots := 0, locals := 22 }, fX9_isPlate, 1, rfl, kX9_isPlate l D ad cA A hlay, ⟨wd_872, wd_64, wd_870, by decide +kernel⟩, wd_871, rfl, rfl, by decide, by decide⟩), List.forall_mem_cons.mpr ⟨Or.inl ⟨yX9_isThing, cX9_isThing, 3, (some .boolean), { frames := 1, cells := 0, slots := 0, locals := 22 }, fX9_isThing, 2, 9, TX9, 39, rfl, kX9_isThing l D ad cA A hlay, ⟨wd_884, wd_64, wd_881, by decide +kernel⟩, wd_883, wd_28, rfl, by decide, rfl, rfl, by decide, by decide⟩, List.forall_mem_cons.mpr ⟨Or.inl ⟨yX9_findVotes, cX9_findVotes, 6, none, { frames := 3, cells := 0, slots := 0, locals := 89 }, fX9_findVotes, 1, 9, TX9, 39, rfl, kX9_findVotes l D ad cA A hlay, ⟨wd_961, wd_64, wd_958, by decide +kernel⟩, wd_960, wd_34, rfl, by decide, rfl, rfl, by decide, by decide⟩, fun _ h => absurd h List.not_mem_nil⟩⟩⟩
  exact am_meth (G := GX9_votes) (rk := 0) (plainFor_of_name (by decide)) hlay (fun i z h => okF_X9 _ (am_al_in h)) (fun i z h => okK_X9 _ (am_al_in h)) (fun i z h => okS_X9 _ (am_al_in h)) (Or.inl ⟨rfl, rfl⟩) (fun i z h => hm _ (am_al_in h))
theorem lX9_votes_90 : GX9_votes.2.2.2 90 = some (none, 1, fX9_isPlate) := rfl
theorem lX9_votes_94 : GX9_votes.2.2.2 94 = some (some 9, 2, fX9_isThing) := rfl
theorem lX9_votes_189 : GX9_votes.2.2.2 189 = some (some 9, 1, fX9_findVotes) := rfl
theorem lX9_votes_32 : GX9_votes.1 32 = some (9, 16) := rfl
noncomputable def MX9_hasSpot : List (Nat × am_M) := []
noncomputable def GX9_hasSpot : am_G := (am_al FX9, am_al KX9, am_al SX9, am_al MX9_hasSpot)
noncomputable def fX9_hasSpot : List Value → am_H → am_R := am_fn 1 GX9_hasSpot cX9_hasSpot 5
theorem kX9_hasSpot (l : Launch) (D : va_G) (ad : Nat → Nat) (cA : Nat → ClassId) (A : Nat → Prop) (hlay : am_lays) : am_Met l D ad cA A yX9_hasSpot cX9_hasSpot 5 (some .boolean) { frames := 0, cells := 0, slots := 0, locals := 0 } fX9_hasSpot := by
  have hm : ∀ e ∈ MX9_hasSpot, am_cc l D ad cA A yX9_hasSpot.cls { frames := 0, cells := 0, slots := 0, locals := 0 } e.1 e.2 := fun _ h => absurd h List.not_mem_nil
  exact am_meth (G := GX9_hasSpot) (rk := 1) (plainFor_of_name (by decide)) hlay (fun i z h => okF_X9 _ (am_al_in h)) (fun i z h => okK_X9 _ (am_al_in h)) (fun i z h => okS_X9 _ (am_al_in h)) (Or.inr (Or.inl ⟨rfl, rfl⟩)) (fun i z h => hm _ (am_al_in h))
theorem lX9_hasSpot_35 : GX9_hasSpot.1 35 = some (9, 17) := rfl
noncomputable def MX9_bestTwo : List (Nat × am_M) := [(193, (some 9, 2, fX9_hasSpot))]
noncomputable def GX9_bestTwo : am_G := (am_al FX9, am_al KX9, am_al SX9, am_al MX9_bestTwo)
noncomputable def fX9_bestTwo : List Value → am_H → am_R := am_fn 0 GX9_bestTwo cX9_bestTwo 5
theorem kX9_bestTwo (l : Launch) (D : va_G) (ad : Nat → Nat) (cA : Nat → ClassId) (A : Nat → Prop) (hlay : am_lays) : am_Met l D ad cA A yX9_bestTwo cX9_bestTwo 5 (some .int) { frames := 1, cells := 0, slots := 0, locals := 24 } fX9_bestTwo := by
  have hm : ∀ e ∈ MX9_bestTwo, am_cc l D ad cA A yX9_bestTwo.cls { frames := 1, cells := 0, slots := 0, locals := 24 } e.1 e.2 := List.forall_mem_cons.mpr ⟨Or.inl ⟨yX9_hasSpot, cX9_hasSpot, 5, (some .boolean), { frames := 0, cells := 0, slots := 0, locals := 0 }, fX9_hasSpot, 2, 9, TX9, 39, rfl, kX9_hasSpot l D ad cA A hlay, ⟨wd_1000, wd_64, wd_997, by decide +kernel⟩, wd_999, wd_41, rfl, by decide, rfl, rfl, by decide, by decide⟩, fun _ h => absurd h List.not_mem_nil⟩
  exact am_meth (G := GX9_bestTwo) (rk := 0) (plainFor_of_name (by decide)) hlay (fun i z h => okF_X9 _ (am_al_in h)) (fun i z h => okK_X9 _ (am_al_in h)) (fun i z h => okS_X9 _ (am_al_in h)) (Or.inl ⟨rfl, rfl⟩) (fun i z h => hm _ (am_al_in h))
theorem lX9_bestTwo_32 : GX9_bestTwo.1 32 = some (9, 16) := rfl
theorem lX9_bestTwo_35 : GX9_bestTwo.1 35 = some (9, 17) := rfl
theorem lX9_bestTwo_193 : GX9_bestTwo.2.2.2 193 = some (some 9, 2, fX9_hasSpot) := rfl
noncomputable def MX9_findMatch : List (Nat × am_M) := [(189, (some 9, 1, fX9_findVotes)), (196, (some 9, 1, fX9_bestTwo))]
noncomputable def GX9_findMatch : am_G := (am_al FX9, am_al KX9, am_al SX9, am_al MX9_findMatch)
noncomputable def fX9_findMatch : List Value → am_H → am_R := am_fn 0 GX9_findMatch cX9_findMatch 4
theorem kX9_findMatch (l : Launch) (D : va_G) (ad : Nat → Nat) (cA : Nat → ClassId) (A : Nat → Prop) (hlay : am_lays) : am_Met l D ad cA A yX9_findMatch cX9_findMatch 4 (some .int) { frames := 4, cells := 0, slots := 0, locals := 114 } fX9_findMatch := by
  have hm : ∀ e ∈ MX9_findMatch, am_cc l D ad cA A yX9_findMatch.cls { frames := 4, cells := 0, slots := 0, locals := 114 } e.1 e.2 := List.forall_mem_cons.mpr ⟨Or.inl ⟨yX9_findVotes, cX9_findVotes, 6, none, { frames := 3, cells := 0, slots := 0, locals := 89 }, fX9_findVotes, 1, 9, TX9, 39, rfl, kX9_findVotes l D ad cA A hlay, ⟨wd_961, wd_64, wd_958, by decide +kernel⟩, wd_960, wd_34, rfl, by decide, rfl, rfl, by decide, by decide⟩, List.forall_mem_cons.mpr ⟨Or.inl ⟨yX9_bestTwo, cX9_bestTwo, 5, (some .int), { frames := 1, cells := 0, slots := 0, locals := 24 }, fX9_bestTwo, 1, 9, TX9, 39, rfl, kX9_bestTwo l D ad cA A hlay, ⟨wd_996, wd_64, wd_993, by decide +kernel⟩, wd_995, wd_40, rfl, by decide, rfl, rfl, by decide, by decide⟩, fun _ h => absurd h List.not_mem_nil⟩⟩
  exact am_meth (G := GX9_findMatch) (rk := 0) (plainFor_of_name (by decide)) hlay (fun i z h => okF_X9 _ (am_al_in h)) (fun i z h => okK_X9 _ (am_al_in h)) (fun i z h => okS_X9 _ (am_al_in h)) (Or.inl ⟨rfl, rfl⟩) (fun i z h => hm _ (am_al_in h))
theorem lX9_findMatch_189 : GX9_findMatch.2.2.2 189 = some (some 9, 1, fX9_findVotes) := rfl
theorem lX9_findMatch_35 : GX9_findMatch.1 35 = some (9, 17) := rfl
theorem lX9_findMatch_196 : GX9_findMatch.2.2.2 196 = some (some 9, 1, fX9_bestTwo) := rfl
noncomputable def MX9_findFit : List (Nat × am_M) := []
noncomputable def GX9_findFit : am_G := (am_al FX9, am_al KX9, am_al SX9, am_al MX9_findFit)
noncomputable def fX9_findFit : List Value → am_H → am_R := am_fn 3 GX9_findFit cX9_findFit 12
theorem kX9_findFit (l : Launch) (D : va_G) (ad : Nat → Nat) (cA : Nat → ClassId) (A : Nat → Prop) (hlay : am_lays) : am_Met l D ad cA A yX9_findFit cX9_findFit 12 none { frames := 0, cells := 0, slots := 0, locals := 0 } fX9_findFit := by
  have hm : ∀ e ∈ MX9_findFit, am_cc l D ad cA A yX9_findFit.cls { frames := 0, cells := 0, slots := 0, locals := 0 } e.1 e.2 := fun _ h => absurd h List.not_mem_nil
  exact am_meth (G := GX9_findFit) (rk := 3) (plainFor_of_name (by decide)) hlay (fun i z h => okF_X9 _ (am_al_in h)) (fun i z h => okK_X9 _ (am_al_in h)) (fun i z h => okS_X9 _ (am_al_in h)) (Or.inr (Or.inr (Or.inr ⟨rfl, rfl⟩))) (fun i z h => hm _ (am_al_in h))
theorem lX9_findFit_199 : GX9_findFit.1 199 = some (9, 19) := rfl
theorem lX9_findFit_203 : GX9_findFit.1 203 = some (9, 20) := rfl
theorem lX9_findFit_206 : GX9_findFit.1 206 = some (9, 21) := rfl
theorem lX9_findFit_209 : GX9_findFit.1 209 = some (9, 22) := rfl
theorem lX9_findFit_212 : GX9_findFit.1 212 = some (9, 23) := rfl
theorem lX9_findFit_215 : GX9_findFit.1 215 = some (9, 24) := rfl
theorem lX9_findFit_218 : GX9_findFit.1 218 = some (9, 25) := rfl
theorem lX9_findFit_221 : GX9_findFit.1 221 = some (9, 18) := rfl
theorem lX9_findFit_13 : GX9_findFit.1 13 = some (9, 1) := rfl
theorem lX9_findFit_38 : GX9_findFit.1 38 = some (9, 26) := rfl
theorem lX9_findFit_16 : GX9_findFit.1 16 = some (9, 2) := rfl
theorem lX9_findFit_41 : GX9_findFit.1 41 = some (9, 27) := rfl
noncomputable def MX9_floor : List (Nat × am_M) := []
noncomputable def GX9_floor : am_G := (am_al FX9, am_al KX9, am_al SX9, am_al MX9_floor)
noncomputable def fX9_floor : List Value → am_H → am_R := am_fn 2 GX9_floor cX9_floor 6
theorem kX9_floor (l : Launch) (D : va_G) (ad : Nat → Nat) (cA : Nat → ClassId) (A : Nat → Prop) (hlay : am_lays) : am_Met l D ad cA A yX9_floor cX9_floor 6 (some .long) { frames := 0, cells := 0, slots := 0, locals := 0 } fX9_floor := by
  have hm : ∀ e ∈ MX9_floor, am_cc l D ad cA A yX9_floor.cls { frames := 0, cells := 0, slots := 0, locals := 0 } e.1 e.2 := fun _ h => absurd h List.not_mem_nil
  exact am_meth (G := GX9_floor) (rk := 2) (plainFor_of_name (by decide)) hlay (fun i z h => okF_X9 _ (am_al_in h)) (fun i z h => okK_X9 _ (am_al_in h)) (fun i z h => okS_X9 _ (am_al_in h)) (Or.inr (Or.inr (Or.inl ⟨rfl, rfl⟩))) (fun i z h => hm _ (am_al_in h))
noncomputable def MX9_laidAt : List (Nat × am_M) := [(224, (none, 2, fX9_floor))]
noncomputable def GX9_laidAt : am_G := (am_al FX9, am_al KX9, am_al SX9, am_al MX9_laidAt)
noncomputable def fX9_laidAt : List Value → am_H → am_R := am_fn 2 GX9_laidAt cX9_laidAt 10
theorem kX9_laidAt (l : Launch) (D : va_G) (ad : Nat → Nat) (cA : Nat → ClassId) (A : Nat → Prop) (hlay : am_lays) : am_Met l D ad cA A yX9_laidAt cX9_laidAt 10 (some .long) { frames := 1, cells := 0, slots := 0, locals := 25 } fX9_laidAt := by
  have hm : ∀ e ∈ MX9_laidAt, am_cc l D ad cA A yX9_laidAt.cls { frames := 1, cells := 0, slots := 0, locals := 25 } e.1 e.2 := List.forall_mem_cons.mpr ⟨Or.inr (Or.inl ⟨yX9_floor, cX9_floor, 6, (some .long), { frames := 0, cells := 0, slots := 0, locals := 0 }, fX9_floor, 2, rfl, kX9_floor l D ad cA A hlay, ⟨wd_1023, wd_64, wd_1021, by decide +kernel⟩, wd_1022, rfl, rfl, by decide, by decide⟩), fun _ h => absurd h List.not_mem_nil⟩
  exact am_meth (G := GX9_laidAt) (rk := 2) (plainFor_of_name (by decide)) hlay (fun i z h => okF_X9 _ (am_al_in h)) (fun i z h => okK_X9 _ (am_al_in h)) (fun i z h => okS_X9 _ (am_al_in h)) (Or.inr (Or.inr (Or.inl ⟨rfl, rfl⟩))) (fun i z h => hm _ (am_al_in h))
theorem lX9_laidAt_221 : GX9_laidAt.1 221 = some (9, 18) := rfl
theorem lX9_laidAt_13 : GX9_laidAt.1 13 = some (9, 1) := rfl
theorem lX9_laidAt_199 : GX9_laidAt.1 199 = some (9, 19) := rfl
theorem lX9_laidAt_16 : GX9_laidAt.1 16 = some (9, 2) := rfl
theorem lX9_laidAt_203 : GX9_laidAt.1 203 = some (9, 20) := rfl
theorem lX9_laidAt_206 : GX9_laidAt.1 206 = some (9, 21) := rfl
theorem lX9_laidAt_212 : GX9_laidAt.1 212 = some (9, 23) := rfl
theorem lX9_laidAt_215 : GX9_laidAt.1 215 = some (9, 24) := rfl
theorem lX9_laidAt_218 : GX9_laidAt.1 218 = some (9, 25) := rfl
theorem lX9_laidAt_209 : GX9_laidAt.1 209 = some (9, 22) := rfl
theorem lX9_laidAt_224 : GX9_laidAt.2.2.2 224 = some (none, 2, fX9_floor) := rfl
noncomputable def MX9_pairs : List (Nat × am_M) := [(228, (some 9, 2, fX9_findFit))]
noncomputable def GX9_pairs : am_G := (am_al FX9, am_al KX9, am_al SX9, am_al MX9_pairs)
noncomputable def fX9_pairs : List Value → am_H → am_R := am_fn 3 GX9_pairs cX9_pairs 3
theorem kX9_pairs (l : Launch) (D : va_G) (ad : Nat → Nat) (cA : Nat → ClassId) (A : Nat → Prop) (hlay : am_lays) : am_Met l D ad cA A yX9_pairs cX9_pairs 3 none { frames := 1, cells := 0, slots := 0, locals := 31 } fX9_pairs := by
  have hm : ∀ e ∈ MX9_pairs, am_cc l D ad cA A yX9_pairs.cls { frames := 1, cells := 0, slots := 0, locals := 31 } e.1 e.2 := List.forall_mem_cons.mpr ⟨Or.inl ⟨yX9_findFit, cX9_findFit, 12, none, { frames := 0, cells := 0, slots := 0, locals := 0 }, fX9_findFit, 2, 9, TX9, 39, rfl, kX9_findFit l D ad cA A hlay, ⟨wd_1008, wd_64, wd_1005, by decide +kernel⟩, wd_1007, wd_43, rfl, by decide, rfl, rfl, by decide, by decide⟩, fun _ h => absurd h List.not_mem_nil⟩
  exact am_meth (G := GX9_pairs) (rk := 3) (plainFor_of_name (by decide)) hlay (fun i z h => okF_X9 _ (am_al_in h)) (fun i z h => okK_X9 _ (am_al_in h)) (fun i z h => okS_X9 _ (am_al_in h)) (Or.inr (Or.inr (Or.inr ⟨rfl, rfl⟩))) (fun i z h => hm _ (am_al_in h))
theorem lX9_pairs_221 : GX9_pairs.1 221 = some (9, 18) := rfl
theorem lX9_pairs_7 : GX9_pairs.1 7 = some (9, 0) := rfl
theorem lX9_pairs_35 : GX9_pairs.1 35 = some (9, 17) := rfl
theorem lX9_pairs_38 : GX9_pairs.1 38 = some (9, 26) := rfl
theorem lX9_pairs_41 : GX9_pairs.1 41 = some (9, 27) := rfl
theorem lX9_pairs_228 : GX9_pairs.2.2.2 228 = some (some 9, 2, fX9_findFit) := rfl
noncomputable def MX9_squareTo : List (Nat × am_M) := [(232, (some 9, 3, fX9_laidAt))]
noncomputable def GX9_squareTo : am_G := (am_al FX9, am_al KX9, am_al SX9, am_al MX9_squareTo)
noncomputable def fX9_squareTo : List Value → am_H → am_R := am_fn 2 GX9_squareTo cX9_squareTo 9
theorem kX9_squareTo (l : Launch) (D : va_G) (ad : Nat → Nat) (cA : Nat → ClassId) (A : Nat → Prop) (hlay : am_lays) : am_Met l D ad cA A yX9_squareTo cX9_squareTo 9 (some .long) { frames := 2, cells := 0, slots := 0, locals := 54 } fX9_squareTo := by
  have hm : ∀ e ∈ MX9_squareTo, am_cc l D ad cA A yX9_squareTo.cls { frames := 2, cells := 0, slots := 0, locals := 54 } e.1 e.2 := List.forall_mem_cons.mpr ⟨Or.inl ⟨yX9_laidAt, cX9_laidAt, 10, (some .long), { frames := 1, cells := 0, slots := 0, locals := 25 }, fX9_laidAt, 3, 9, TX9, 39, rfl, kX9_laidAt l D ad cA A hlay, ⟨wd_1020, wd_64, wd_1017, by decide +kernel⟩, wd_1019, wd_46, rfl, by decide, rfl, rfl, by decide, by decide⟩, fun _ h => absurd h List.not_mem_nil⟩
  exact am_meth (G := GX9_squareTo) (rk := 2) (plainFor_of_name (by decide)) hlay (fun i z h => okF_X9 _ (am_al_in h)) (fun i z h => okK_X9 _ (am_al_in h)) (fun i z h => okS_X9 _ (am_al_in h)) (Or.inr (Or.inr (Or.inl ⟨rfl, rfl⟩))) (fun i z h => hm _ (am_al_in h))
theorem lX9_squareTo_232 : GX9_squareTo.2.2.2 232 = some (some 9, 3, fX9_laidAt) := rfl
theorem lX9_squareTo_13 : GX9_squareTo.1 13 = some (9, 1) := rfl
theorem lX9_squareTo_16 : GX9_squareTo.1 16 = some (9, 2) := rfl
noncomputable def MX9_offOf : List (Nat × am_M) := [(235, (some 9, 4, fX9_squareTo))]
noncomputable def GX9_offOf : am_G := (am_al FX9, am_al KX9, am_al SX9, am_al MX9_offOf)
noncomputable def fX9_offOf : List Value → am_H → am_R := am_fn 2 GX9_offOf cX9_offOf 3
theorem kX9_offOf (l : Launch) (D : va_G) (ad : Nat → Nat) (cA : Nat → ClassId) (A : Nat → Prop) (hlay : am_lays) : am_Met l D ad cA A yX9_offOf cX9_offOf 3 (some .long) { frames := 3, cells := 0, slots := 0, locals := 82 } fX9_offOf := by
  have hm : ∀ e ∈ MX9_offOf, am_cc l D ad cA A yX9_offOf.cls { frames := 3, cells := 0, slots := 0, locals := 82 } e.1 e.2 := List.forall_mem_cons.mpr ⟨Or.inl ⟨yX9_squareTo, cX9_squareTo, 9, (some .long), { frames := 2, cells := 0, slots := 0, locals := 54 }, fX9_squareTo, 4, 9, TX9, 39, rfl, kX9_squareTo l D ad cA A hlay, ⟨wd_1016, wd_64, wd_1013, by decide +kernel⟩, wd_1015, wd_45, rfl, by decide, rfl, rfl, by decide, by decide⟩, fun _ h => absurd h List.not_mem_nil⟩
  exact am_meth (G := GX9_offOf) (rk := 2) (plainFor_of_name (by decide)) hlay (fun i z h => okF_X9 _ (am_al_in h)) (fun i z h => okK_X9 _ (am_al_in h)) (fun i z h => okS_X9 _ (am_al_in h)) (Or.inr (Or.inr (Or.inl ⟨rfl, rfl⟩))) (fun i z h => hm _ (am_al_in h))
theorem lX9_offOf_35 : GX9_offOf.1 35 = some (9, 17) := rfl
theorem lX9_offOf_235 : GX9_offOf.2.2.2 235 = some (some 9, 4, fX9_squareTo) := rfl
noncomputable def MX9_findCleaned : List (Nat × am_M) := [(238, (some 9, 1, fX9_findMatch)), (241, (some 9, 1, fX9_pairs)), (244, (some 9, 2, fX9_offOf))]
noncomputable def GX9_findCleaned : am_G := (am_al FX9, am_al KX9, am_al SX9, am_al MX9_findCleaned)
noncomputable def fX9_findCleaned : List Value → am_H → am_R := am_fn 0 GX9_findCleaned cX9_findCleaned 6
theorem kX9_findCleaned (l : Launch) (D : va_G) (ad : Nat → Nat) (cA : Nat → ClassId) (A : Nat → Prop) (hlay : am_lays) : am_Met l D ad cA A yX9_findCleaned cX9_findCleaned 6 (some .int) { frames := 5, cells := 0, slots := 0, locals := 137 } fX9_findCleaned := by
  have hm : ∀ e ∈ MX9_findCleaned, am_cc l D ad cA A yX9_findCleaned.cls { frames := 5, cells := 0, slots := 0, locals := 137 } e.1 e.2 := List.forall_mem_cons.mpr ⟨Or.inl ⟨yX9_findMatch, cX9_findMatch, 4, (some .int), { frames := 4, cells := 0, slots := 0, locals := 114 }, fX9_findMatch, 1, 9, TX9, 39, rfl, kX9_findMatch l D ad cA A hlay, ⟨wd_992, wd_64, wd_989, by decide +kernel⟩, wd_991, wd_39, rfl, by decide, rfl, rfl, by decide, by decide⟩, List.forall_mem_cons.mpr ⟨Or.inl ⟨yX9_pairs, cX9_pairs, 3, none, { frames := 1, cells := 0, slots := 0, locals := 31 }, fX9_pairs, 1, 9, TX9, 39, rfl, kX9_pairs l D ad cA A hlay, ⟨wd_1004, wd_64, wd_1001, by decide +kernel⟩, wd_1003, wd_42, rfl, by decide, rfl, rfl, by decide, by decide⟩, List.forall_mem_cons.mpr ⟨Or.inl ⟨yX9_offOf, cX9_offOf, 3, (some .long), { frames := 3, cells := 0, slots := 0, locals := 82 }, fX9_offOf, 2, 9, TX9, 39, rfl, kX9_offOf l D ad cA A hlay, ⟨wd_1012, wd_64, wd_1009, by decide +kernel⟩, wd_1011, wd_44, rfl, by decide, rfl, rfl, by decide, by decide⟩, fun _ h => absurd h List.not_mem_nil⟩⟩⟩
  exact am_meth (G := GX9_findCleaned) (rk := 0) (plainFor_of_name (by decide)) hlay (fun i z h => okF_X9 _ (am_al_in h)) (fun i z h => okK_X9 _ (am_al_in h)) (fun i z h => okS_X9 _ (am_al_in h)) (Or.inl ⟨rfl, rfl⟩) (fun i z h => hm _ (am_al_in h))
theorem lX9_findCleaned_238 : GX9_findCleaned.2.2.2 238 = some (some 9, 1, fX9_findMatch) := rfl
theorem lX9_findCleaned_241 : GX9_findCleaned.2.2.2 241 = some (some 9, 1, fX9_pairs) := rfl
theorem lX9_findCleaned_38 : GX9_findCleaned.1 38 = some (9, 26) := rfl
theorem lX9_findCleaned_221 : GX9_findCleaned.1 221 = some (9, 18) := rfl
theorem lX9_findCleaned_244 : GX9_findCleaned.2.2.2 244 = some (some 9, 2, fX9_offOf) := rfl
theorem lX9_findCleaned_23 : GX9_findCleaned.1 23 = some (9, 4) := rfl
theorem lX9_findCleaned_35 : GX9_findCleaned.1 35 = some (9, 17) := rfl
noncomputable def MX9_match : List (Nat × am_M) := [(90, (none, 1, fX9_isPlate)), (94, (some 9, 2, fX9_isThing)), (248, (some 9, 1, fX9_findCleaned)), (238, (some 9, 1, fX9_findMatch))]
noncomputable def GX9_match : am_G := (am_al FX9, am_al KX9, am_al SX9, am_al MX9_match)
noncomputable def fX9_match : List Value → am_H → am_R := am_fn 0 GX9_match cX9_match 5
theorem kX9_match (l : Launch) (D : va_G) (ad : Nat → Nat) (cA : Nat → ClassId) (A : Nat → Prop) (hlay : am_lays) : am_Met l D ad cA A yX9_match cX9_match 5 (some .int) { frames := 6, cells := 0, slots := 0, locals := 162 } fX9_match := by
  have hm : ∀ e ∈ MX9_match, am_cc l D ad cA A yX9_match.cls { frames := 6, cells := 0, slots := 0, locals := 162 } e.1 e.2 := List.forall_mem_cons.mpr ⟨Or.inr (Or.inl ⟨yX9_isPlate, cX9_isPlate, 1, (some .boolean), { frames := 1, cells := 0, slots := 0, locals := 22 }, fX9_isPlate, 1, rfl, kX9_isPlate l D ad cA A hlay, ⟨wd_872, wd_64, wd_870, by decide +kernel⟩, wd_871, rfl, rfl, by decide, by decide⟩), List.forall_mem_cons.mpr ⟨Or.inl ⟨yX9_isThing, cX9_isThing, 3, (some .boolean), { frames := 1, cells := 0, slots := 0, locals := 22 }, fX9_isThing, 2, 9, TX9, 39, rfl, kX9_isThing l D ad cA A hlay, ⟨wd_884, wd_64, wd_881, by decide +kernel⟩, wd_883, wd_28, rfl, by decide, rfl, rfl, by decide, by decide⟩, List.forall_mem_cons.mpr ⟨Or.inl ⟨yX9_findCleaned, cX9_findCleaned, 6, (some .int), { frames := 5, cells := 0, slots := 0, locals := 137 }, fX9_findCleaned, 1, 9, TX9, 39, rfl, kX9_findCleaned l D ad cA A hlay, ⟨wd_988, wd_64, wd_985, by decide +kernel⟩, wd_987, wd_38, rfl, by decide, rfl, rfl, by decide, by decide⟩, List.forall_mem_cons.mpr ⟨Or.inl ⟨yX9_findMatch, cX9_findMatch, 4, (some .int), { frames := 4, cells := 0, slots := 0, locals := 114 }, fX9_findMatch, 1, 9, TX9, 39, rfl, kX9_findMatch l D ad cA A hlay, ⟨wd_992, wd_64, wd_989, by decide +kernel⟩, wd_991, wd_39, rfl, by decide, rfl, rfl, by decide, by decide⟩, fun _ h => absurd h List.not_mem_nil⟩⟩⟩⟩
  exact am_meth (G := GX9_match) (rk := 0) (plainFor_of_name (by decide)) hlay (fun i z h => okF_X9 _ (am_al_in h)) (fun i z h => okK_X9 _ (am_al_in h)) (fun i z h => okS_X9 _ (am_al_in h)) (Or.inl ⟨rfl, rfl⟩) (fun i z h => hm _ (am_al_in h))
theorem lX9_match_90 : GX9_match.2.2.2 90 = some (none, 1, fX9_isPlate) := rfl
theorem lX9_match_94 : GX9_match.2.2.2 94 = some (some 9, 2, fX9_isThing) := rfl
theorem lX9_match_248 : GX9_match.2.2.2 248 = some (some 9, 1, fX9_findCleaned) := rfl
theorem lX9_match_238 : GX9_match.2.2.2 238 = some (some 9, 1, fX9_findMatch) := rfl
theorem lX9_match_35 : GX9_match.1 35 = some (9, 17) := rfl
noncomputable def MX9_common : List (Nat × am_M) := []
noncomputable def GX9_common : am_G := (am_al FX9, am_al KX9, am_al SX9, am_al MX9_common)
noncomputable def fX9_common : List Value → am_H → am_R := am_fn 2 GX9_common cX9_common 10
theorem kX9_common (l : Launch) (D : va_G) (ad : Nat → Nat) (cA : Nat → ClassId) (A : Nat → Prop) (hlay : am_lays) : am_Met l D ad cA A yX9_common cX9_common 10 (some .long) { frames := 0, cells := 0, slots := 0, locals := 0 } fX9_common := by
  have hm : ∀ e ∈ MX9_common, am_cc l D ad cA A yX9_common.cls { frames := 0, cells := 0, slots := 0, locals := 0 } e.1 e.2 := fun _ h => absurd h List.not_mem_nil
  exact am_meth (G := GX9_common) (rk := 2) (plainFor_of_name (by decide)) hlay (fun i z h => okF_X9 _ (am_al_in h)) (fun i z h => okK_X9 _ (am_al_in h)) (fun i z h => okS_X9 _ (am_al_in h)) (Or.inr (Or.inr (Or.inl ⟨rfl, rfl⟩))) (fun i z h => hm _ (am_al_in h))
noncomputable def MX9_fit : List (Nat × am_M) := [(90, (none, 1, fX9_isPlate)), (75, (none, 3, fX9_within)), (248, (some 9, 1, fX9_findCleaned)), (253, (none, 2, fX9_common))]
noncomputable def GX9_fit : am_G := (am_al FX9, am_al KX9, am_al SX9, am_al MX9_fit)
noncomputable def fX9_fit : List Value → am_H → am_R := am_fn 2 GX9_fit cX9_fit 6
theorem kX9_fit (l : Launch) (D : va_G) (ad : Nat → Nat) (cA : Nat → ClassId) (A : Nat → Prop) (hlay : am_lays) : am_Met l D ad cA A yX9_fit cX9_fit 6 (some .long) { frames := 6, cells := 0, slots := 0, locals := 162 } fX9_fit := by
  have hm : ∀ e ∈ MX9_fit, am_cc l D ad cA A yX9_fit.cls { frames := 6, cells := 0, slots := 0, locals := 162 } e.1 e.2 := List.forall_mem_cons.mpr ⟨Or.inr (Or.inl ⟨yX9_isPlate, cX9_isPlate, 1, (some .boolean), { frames := 1, cells := 0, slots := 0, locals := 22 }, fX9_isPlate, 1, rfl, kX9_isPlate l D ad cA A hlay, ⟨wd_872, wd_64, wd_870, by decide +kernel⟩, wd_871, rfl, rfl, by decide, by decide⟩), List.forall_mem_cons.mpr ⟨Or.inr (Or.inl ⟨yX9_within, cX9_within, 3, (some .boolean), { frames := 0, cells := 0, slots := 0, locals := 0 }, fX9_within, 3, rfl, kX9_within l D ad cA A hlay, ⟨wd_849, wd_64, wd_847, by decide +kernel⟩, wd_848, rfl, rfl, by decide, by decide⟩), List.forall_mem_cons.mpr ⟨Or.inl ⟨yX9_findCleaned, cX9_findCleaned, 6, (some .int), { frames := 5, cells := 0, slots := 0, locals := 137 }, fX9_findCleaned, 1, 9, TX9, 39, rfl, kX9_findCleaned l D ad cA A hlay, ⟨wd_988, wd_64, wd_985, by decide +kernel⟩, wd_987, wd_38, rfl, by decide, rfl, rfl, by decide, by decide⟩, List.forall_mem_cons.mpr ⟨Or.inr (Or.inl ⟨yX9_common, cX9_common, 10, (some .long), { frames := 0, cells := 0, slots := 0, locals := 0 }, fX9_common, 2, rfl, kX9_common l D ad cA A hlay, ⟨wd_1031, wd_64, wd_1029, by decide +kernel⟩, wd_1030, rfl, rfl, by decide, by decide⟩), fun _ h => absurd h List.not_mem_nil⟩⟩⟩⟩
  exact am_meth (G := GX9_fit) (rk := 2) (plainFor_of_name (by decide)) hlay (fun i z h => okF_X9 _ (am_al_in h)) (fun i z h => okK_X9 _ (am_al_in h)) (fun i z h => okS_X9 _ (am_al_in h)) (Or.inr (Or.inr (Or.inl ⟨rfl, rfl⟩))) (fun i z h => hm _ (am_al_in h))
theorem lX9_fit_90 : GX9_fit.2.2.2 90 = some (none, 1, fX9_isPlate) := rfl
theorem lX9_fit_75 : GX9_fit.2.2.2 75 = some (none, 3, fX9_within) := rfl
theorem lX9_fit_248 : GX9_fit.2.2.2 248 = some (some 9, 1, fX9_findCleaned) := rfl
theorem lX9_fit_251 : GX9_fit.2.1 251 = some (.long (-9223372036854775808)) := rfl
theorem lX9_fit_215 : GX9_fit.1 215 = some (9, 24) := rfl
theorem lX9_fit_218 : GX9_fit.1 218 = some (9, 25) := rfl
theorem lX9_fit_212 : GX9_fit.1 212 = some (9, 23) := rfl
theorem lX9_fit_253 : GX9_fit.2.2.2 253 = some (none, 2, fX9_common) := rfl
noncomputable def MX9_laid : List (Nat × am_M) := [(90, (none, 1, fX9_isPlate)), (94, (some 9, 2, fX9_isThing)), (75, (none, 3, fX9_within)), (248, (some 9, 1, fX9_findCleaned)), (232, (some 9, 3, fX9_laidAt))]
noncomputable def GX9_laid : am_G := (am_al FX9, am_al KX9, am_al SX9, am_al MX9_laid)
noncomputable def fX9_laid : List Value → am_H → am_R := am_fn 2 GX9_laid cX9_laid 5
theorem kX9_laid (l : Launch) (D : va_G) (ad : Nat → Nat) (cA : Nat → ClassId) (A : Nat → Prop) (hlay : am_lays) : am_Met l D ad cA A yX9_laid cX9_laid 5 (some .long) { frames := 6, cells := 0, slots := 0, locals := 162 } fX9_laid := by
  have hm : ∀ e ∈ MX9_laid, am_cc l D ad cA A yX9_laid.cls { frames := 6, cells := 0, slots := 0, locals := 162 } e.1 e.2 := List.forall_mem_cons.mpr ⟨Or.inr (Or.inl ⟨yX9_isPlate, cX9_isPlate, 1, (some .boolean), { frames := 1, cells := 0, slots := 0, locals := 22 }, fX9_isPlate, 1, rfl, kX9_isPlate l D ad cA A hlay, ⟨wd_872, wd_64, wd_870, by decide +kernel⟩, wd_871, rfl, rfl, by decide, by decide⟩), List.forall_mem_cons.mpr ⟨Or.inl ⟨yX9_isThing, cX9_isThing, 3, (some .boolean), { frames := 1, cells := 0, slots := 0, locals := 22 }, fX9_isThing, 2, 9, TX9, 39, rfl, kX9_isThing l D ad cA A hlay, ⟨wd_884, wd_64, wd_881, by decide +kernel⟩, wd_883, wd_28, rfl, by decide, rfl, rfl, by decide, by decide⟩, List.forall_mem_cons.mpr ⟨Or.inr (Or.inl ⟨yX9_within, cX9_within, 3, (some .boolean), { frames := 0, cells := 0, slots := 0, locals := 0 }, fX9_within, 3, rfl, kX9_within l D ad cA A hlay, ⟨wd_849, wd_64, wd_847, by decide +kernel⟩, wd_848, rfl, rfl, by decide, by decide⟩), List.forall_mem_cons.mpr ⟨Or.inl ⟨yX9_findCleaned, cX9_findCleaned, 6, (some .int), { frames := 5, cells := 0, slots := 0, locals := 137 }, fX9_findCleaned, 1, 9, TX9, 39, rfl, kX9_findCleaned l D ad cA A hlay, ⟨wd_988, wd_64, wd_985, by decide +kernel⟩, wd_987, wd_38, rfl, by decide, rfl, rfl, by decide, by decide⟩, List.forall_mem_cons.mpr ⟨Or.inl ⟨yX9_laidAt, cX9_laidAt, 10, (some .long), { frames := 1, cells := 0, slots := 0, locals := 25 }, fX9_laidAt, 3, 9, TX9, 39, rfl, kX9_laidAt l D ad cA A hlay, ⟨wd_1020, wd_64, wd_1017, by decide +kernel⟩, wd_1019, wd_46, rfl, by decide, rfl, rfl, by decide, by decide⟩, fun _ h => absurd h List.not_mem_nil⟩⟩⟩⟩⟩
  exact am_meth (G := GX9_laid) (rk := 2) (plainFor_of_name (by decide)) hlay (fun i z h => okF_X9 _ (am_al_in h)) (fun i z h => okK_X9 _ (am_al_in h)) (fun i z h => okS_X9 _ (am_al_in h)) (Or.inr (Or.inr (Or.inl ⟨rfl, rfl⟩))) (fun i z h => hm _ (am_al_in h))
theorem lX9_laid_90 : GX9_laid.2.2.2 90 = some (none, 1, fX9_isPlate) := rfl
theorem lX9_laid_94 : GX9_laid.2.2.2 94 = some (some 9, 2, fX9_isThing) := rfl
theorem lX9_laid_75 : GX9_laid.2.2.2 75 = some (none, 3, fX9_within) := rfl
theorem lX9_laid_248 : GX9_laid.2.2.2 248 = some (some 9, 1, fX9_findCleaned) := rfl
theorem lX9_laid_232 : GX9_laid.2.2.2 232 = some (some 9, 3, fX9_laidAt) := rfl
theorem lX9_laid_251 : GX9_laid.2.1 251 = some (.long (-9223372036854775808)) := rfl
noncomputable def MX9_off : List (Nat × am_M) := [(90, (none, 1, fX9_isPlate)), (94, (some 9, 2, fX9_isThing)), (248, (some 9, 1, fX9_findCleaned)), (244, (some 9, 2, fX9_offOf))]
noncomputable def GX9_off : am_G := (am_al FX9, am_al KX9, am_al SX9, am_al MX9_off)
noncomputable def fX9_off : List Value → am_H → am_R := am_fn 2 GX9_off cX9_off 4
theorem kX9_off (l : Launch) (D : va_G) (ad : Nat → Nat) (cA : Nat → ClassId) (A : Nat → Prop) (hlay : am_lays) : am_Met l D ad cA A yX9_off cX9_off 4 (some .long) { frames := 6, cells := 0, slots := 0, locals := 162 } fX9_off := by
  have hm : ∀ e ∈ MX9_off, am_cc l D ad cA A yX9_off.cls { frames := 6, cells := 0, slots := 0, locals := 162 } e.1 e.2 := List.forall_mem_cons.mpr ⟨Or.inr (Or.inl ⟨yX9_isPlate, cX9_isPlate, 1, (some .boolean), { frames := 1, cells := 0, slots := 0, locals := 22 }, fX9_isPlate, 1, rfl, kX9_isPlate l D ad cA A hlay, ⟨wd_872, wd_64, wd_870, by decide +kernel⟩, wd_871, rfl, rfl, by decide, by decide⟩), List.forall_mem_cons.mpr ⟨Or.inl ⟨yX9_isThing, cX9_isThing, 3, (some .boolean), { frames := 1, cells := 0, slots := 0, locals := 22 }, fX9_isThing, 2, 9, TX9, 39, rfl, kX9_isThing l D ad cA A hlay, ⟨wd_884, wd_64, wd_881, by decide +kernel⟩, wd_883, wd_28, rfl, by decide, rfl, rfl, by decide, by decide⟩, List.forall_mem_cons.mpr ⟨Or.inl ⟨yX9_findCleaned, cX9_findCleaned, 6, (some .int), { frames := 5, cells := 0, slots := 0, locals := 137 }, fX9_findCleaned, 1, 9, TX9, 39, rfl, kX9_findCleaned l D ad cA A hlay, ⟨wd_988, wd_64, wd_985, by decide +kernel⟩, wd_987, wd_38, rfl, by decide, rfl, rfl, by decide, by decide⟩, List.forall_mem_cons.mpr ⟨Or.inl ⟨yX9_offOf, cX9_offOf, 3, (some .long), { frames := 3, cells := 0, slots := 0, locals := 82 }, fX9_offOf, 2, 9, TX9, 39, rfl, kX9_offOf l D ad cA A hlay, ⟨wd_1012, wd_64, wd_1009, by decide +kernel⟩, wd_1011, wd_44, rfl, by decide, rfl, rfl, by decide, by decide⟩, fun _ h => absurd h List.not_mem_nil⟩⟩⟩⟩
  exact am_meth (G := GX9_off) (rk := 2) (plainFor_of_name (by decide)) hlay (fun i z h => okF_X9 _ (am_al_in h)) (fun i z h => okK_X9 _ (am_al_in h)) (fun i z h => okS_X9 _ (am_al_in h)) (Or.inr (Or.inr (Or.inl ⟨rfl, rfl⟩))) (fun i z h => hm _ (am_al_in h))
theorem lX9_off_90 : GX9_off.2.2.2 90 = some (none, 1, fX9_isPlate) := rfl
theorem lX9_off_94 : GX9_off.2.2.2 94 = some (some 9, 2, fX9_isThing) := rfl
theorem lX9_off_248 : GX9_off.2.2.2 248 = some (some 9, 1, fX9_findCleaned) := rfl
theorem lX9_off_35 : GX9_off.1 35 = some (9, 17) := rfl
theorem lX9_off_244 : GX9_off.2.2.2 244 = some (some 9, 2, fX9_offOf) := rfl
theorem lX9_off_251 : GX9_off.2.1 251 = some (.long (-9223372036854775808)) := rfl
noncomputable def MX9_areWrong : List (Nat × am_M) := []
noncomputable def GX9_areWrong : am_G := (am_al FX9, am_al KX9, am_al SX9, am_al MX9_areWrong)
noncomputable def fX9_areWrong : List Value → am_H → am_R := am_fn 1 GX9_areWrong cX9_areWrong 8
theorem kX9_areWrong (l : Launch) (D : va_G) (ad : Nat → Nat) (cA : Nat → ClassId) (A : Nat → Prop) (hlay : am_lays) : am_Met l D ad cA A yX9_areWrong cX9_areWrong 8 (some .boolean) { frames := 0, cells := 0, slots := 0, locals := 0 } fX9_areWrong := by
  have hm : ∀ e ∈ MX9_areWrong, am_cc l D ad cA A yX9_areWrong.cls { frames := 0, cells := 0, slots := 0, locals := 0 } e.1 e.2 := fun _ h => absurd h List.not_mem_nil
  exact am_meth (G := GX9_areWrong) (rk := 1) (plainFor_of_name (by decide)) hlay (fun i z h => okF_X9 _ (am_al_in h)) (fun i z h => okK_X9 _ (am_al_in h)) (fun i z h => okS_X9 _ (am_al_in h)) (Or.inr (Or.inl ⟨rfl, rfl⟩)) (fun i z h => hm _ (am_al_in h))
theorem lX9_areWrong_35 : GX9_areWrong.1 35 = some (9, 17) := rfl
theorem lX9_areWrong_19 : GX9_areWrong.1 19 = some (9, 3) := rfl
noncomputable def MX9_wrongOf : List (Nat × am_M) := [(256, (some 9, 3, fX9_areWrong))]
noncomputable def GX9_wrongOf : am_G := (am_al FX9, am_al KX9, am_al SX9, am_al MX9_wrongOf)
noncomputable def fX9_wrongOf : List Value → am_H → am_R := am_fn 0 GX9_wrongOf cX9_wrongOf 5
theorem kX9_wrongOf (l : Launch) (D : va_G) (ad : Nat → Nat) (cA : Nat → ClassId) (A : Nat → Prop) (hlay : am_lays) : am_Met l D ad cA A yX9_wrongOf cX9_wrongOf 5 (some .int) { frames := 1, cells := 0, slots := 0, locals := 27 } fX9_wrongOf := by
  have hm : ∀ e ∈ MX9_wrongOf, am_cc l D ad cA A yX9_wrongOf.cls { frames := 1, cells := 0, slots := 0, locals := 27 } e.1 e.2 := List.forall_mem_cons.mpr ⟨Or.inl ⟨yX9_areWrong, cX9_areWrong, 8, (some .boolean), { frames := 0, cells := 0, slots := 0, locals := 0 }, fX9_areWrong, 3, 9, TX9, 39, rfl, kX9_areWrong l D ad cA A hlay, ⟨wd_1051, wd_64, wd_1048, by decide +kernel⟩, wd_1050, wd_48, rfl, by decide, rfl, rfl, by decide, by decide⟩, fun _ h => absurd h List.not_mem_nil⟩
  exact am_meth (G := GX9_wrongOf) (rk := 0) (plainFor_of_name (by decide)) hlay (fun i z h => okF_X9 _ (am_al_in h)) (fun i z h => okK_X9 _ (am_al_in h)) (fun i z h => okS_X9 _ (am_al_in h)) (Or.inl ⟨rfl, rfl⟩) (fun i z h => hm _ (am_al_in h))
theorem lX9_wrongOf_7 : GX9_wrongOf.1 7 = some (9, 0) := rfl
theorem lX9_wrongOf_256 : GX9_wrongOf.2.2.2 256 = some (some 9, 3, fX9_areWrong) := rfl
noncomputable def MX9_wrong : List (Nat × am_M) := [(90, (none, 1, fX9_isPlate)), (75, (none, 3, fX9_within)), (248, (some 9, 1, fX9_findCleaned)), (259, (some 9, 2, fX9_wrongOf))]
noncomputable def GX9_wrong : am_G := (am_al FX9, am_al KX9, am_al SX9, am_al MX9_wrong)
noncomputable def fX9_wrong : List Value → am_H → am_R := am_fn 0 GX9_wrong cX9_wrong 8
theorem kX9_wrong (l : Launch) (D : va_G) (ad : Nat → Nat) (cA : Nat → ClassId) (A : Nat → Prop) (hlay : am_lays) : am_Met l D ad cA A yX9_wrong cX9_wrong 8 (some .int) { frames := 6, cells := 0, slots := 0, locals := 162 } fX9_wrong := by
  have hm : ∀ e ∈ MX9_wrong, am_cc l D ad cA A yX9_wrong.cls { frames := 6, cells := 0, slots := 0, locals := 162 } e.1 e.2 := List.forall_mem_cons.mpr ⟨Or.inr (Or.inl ⟨yX9_isPlate, cX9_isPlate, 1, (some .boolean), { frames := 1, cells := 0, slots := 0, locals := 22 }, fX9_isPlate, 1, rfl, kX9_isPlate l D ad cA A hlay, ⟨wd_872, wd_64, wd_870, by decide +kernel⟩, wd_871, rfl, rfl, by decide, by decide⟩), List.forall_mem_cons.mpr ⟨Or.inr (Or.inl ⟨yX9_within, cX9_within, 3, (some .boolean), { frames := 0, cells := 0, slots := 0, locals := 0 }, fX9_within, 3, rfl, kX9_within l D ad cA A hlay, ⟨wd_849, wd_64, wd_847, by decide +kernel⟩, wd_848, rfl, rfl, by decide, by decide⟩), List.forall_mem_cons.mpr ⟨Or.inl ⟨yX9_findCleaned, cX9_findCleaned, 6, (some .int), { frames := 5, cells := 0, slots := 0, locals := 137 }, fX9_findCleaned, 1, 9, TX9, 39, rfl, kX9_findCleaned l D ad cA A hlay, ⟨wd_988, wd_64, wd_985, by decide +kernel⟩, wd_987, wd_38, rfl, by decide, rfl, rfl, by decide, by decide⟩, List.forall_mem_cons.mpr ⟨Or.inl ⟨yX9_wrongOf, cX9_wrongOf, 5, (some .int), { frames := 1, cells := 0, slots := 0, locals := 27 }, fX9_wrongOf, 2, 9, TX9, 39, rfl, kX9_wrongOf l D ad cA A hlay, ⟨wd_1047, wd_64, wd_1044, by decide +kernel⟩, wd_1046, wd_47, rfl, by decide, rfl, rfl, by decide, by decide⟩, fun _ h => absurd h List.not_mem_nil⟩⟩⟩⟩
  exact am_meth (G := GX9_wrong) (rk := 0) (plainFor_of_name (by decide)) hlay (fun i z h => okF_X9 _ (am_al_in h)) (fun i z h => okK_X9 _ (am_al_in h)) (fun i z h => okS_X9 _ (am_al_in h)) (Or.inl ⟨rfl, rfl⟩) (fun i z h => hm _ (am_al_in h))
theorem lX9_wrong_90 : GX9_wrong.2.2.2 90 = some (none, 1, fX9_isPlate) := rfl
theorem lX9_wrong_75 : GX9_wrong.2.2.2 75 = some (none, 3, fX9_within) := rfl
theorem lX9_wrong_248 : GX9_wrong.2.2.2 248 = some (some 9, 1, fX9_findCleaned) := rfl
theorem lX9_wrong_7 : GX9_wrong.1 7 = some (9, 0) := rfl
theorem lX9_wrong_259 : GX9_wrong.2.2.2 259 = some (some 9, 2, fX9_wrongOf) := rfl
noncomputable def MX9_findBoth : List (Nat × am_M) := [(248, (some 9, 1, fX9_findCleaned)), (228, (some 9, 2, fX9_findFit))]
noncomputable def GX9_findBoth : am_G := (am_al FX9, am_al KX9, am_al SX9, am_al MX9_findBoth)
noncomputable def fX9_findBoth : List Value → am_H → am_R := am_fn 0 GX9_findBoth cX9_findBoth 2
theorem kX9_findBoth (l : Launch) (D : va_G) (ad : Nat → Nat) (cA : Nat → ClassId) (A : Nat → Prop) (hlay : am_lays) : am_Met l D ad cA A yX9_findBoth cX9_findBoth 2 (some .int) { frames := 6, cells := 0, slots := 0, locals := 162 } fX9_findBoth := by
  have hm : ∀ e ∈ MX9_findBoth, am_cc l D ad cA A yX9_findBoth.cls { frames := 6, cells := 0, slots := 0, locals := 162 } e.1 e.2 := List.forall_mem_cons.mpr ⟨Or.inl ⟨yX9_findCleaned, cX9_findCleaned, 6, (some .int), { frames := 5, cells := 0, slots := 0, locals := 137 }, fX9_findCleaned, 1, 9, TX9, 39, rfl, kX9_findCleaned l D ad cA A hlay, ⟨wd_988, wd_64, wd_985, by decide +kernel⟩, wd_987, wd_38, rfl, by decide, rfl, rfl, by decide, by decide⟩, List.forall_mem_cons.mpr ⟨Or.inl ⟨yX9_findFit, cX9_findFit, 12, none, { frames := 0, cells := 0, slots := 0, locals := 0 }, fX9_findFit, 2, 9, TX9, 39, rfl, kX9_findFit l D ad cA A hlay, ⟨wd_1008, wd_64, wd_1005, by decide +kernel⟩, wd_1007, wd_43, rfl, by decide, rfl, rfl, by decide, by decide⟩, fun _ h => absurd h List.not_mem_nil⟩⟩
  exact am_meth (G := GX9_findBoth) (rk := 0) (plainFor_of_name (by decide)) hlay (fun i z h => okF_X9 _ (am_al_in h)) (fun i z h => okK_X9 _ (am_al_in h)) (fun i z h => okS_X9 _ (am_al_in h)) (Or.inl ⟨rfl, rfl⟩) (fun i z h => hm _ (am_al_in h))
theorem lX9_findBoth_248 : GX9_findBoth.2.2.2 248 = some (some 9, 1, fX9_findCleaned) := rfl
theorem lX9_findBoth_221 : GX9_findBoth.1 221 = some (9, 18) := rfl
theorem lX9_findBoth_7 : GX9_findBoth.1 7 = some (9, 0) := rfl
theorem lX9_findBoth_35 : GX9_findBoth.1 35 = some (9, 17) := rfl
theorem lX9_findBoth_38 : GX9_findBoth.1 38 = some (9, 26) := rfl
theorem lX9_findBoth_41 : GX9_findBoth.1 41 = some (9, 27) := rfl
theorem lX9_findBoth_228 : GX9_findBoth.2.2.2 228 = some (some 9, 2, fX9_findFit) := rfl
noncomputable def MX9_both : List (Nat × am_M) := [(263, (some 9, 0, fX9_findBoth))]
noncomputable def GX9_both : am_G := (am_al FX9, am_al KX9, am_al SX9, am_al MX9_both)
noncomputable def fX9_both : List Value → am_H → am_R := am_fn 0 GX9_both cX9_both 3
theorem kX9_both (l : Launch) (D : va_G) (ad : Nat → Nat) (cA : Nat → ClassId) (A : Nat → Prop) (hlay : am_lays) : am_Met l D ad cA A yX9_both cX9_both 3 (some .int) { frames := 7, cells := 0, slots := 0, locals := 183 } fX9_both := by
  have hm : ∀ e ∈ MX9_both, am_cc l D ad cA A yX9_both.cls { frames := 7, cells := 0, slots := 0, locals := 183 } e.1 e.2 := List.forall_mem_cons.mpr ⟨Or.inl ⟨yX9_findBoth, cX9_findBoth, 2, (some .int), { frames := 6, cells := 0, slots := 0, locals := 162 }, fX9_findBoth, 0, 9, TX9, 39, rfl, kX9_findBoth l D ad cA A hlay, ⟨wd_1059, wd_64, wd_1056, by decide +kernel⟩, wd_1058, wd_49, rfl, by decide, rfl, rfl, by decide, by decide⟩, fun _ h => absurd h List.not_mem_nil⟩
  exact am_meth (G := GX9_both) (rk := 0) (plainFor_of_name (by decide)) hlay (fun i z h => okF_X9 _ (am_al_in h)) (fun i z h => okK_X9 _ (am_al_in h)) (fun i z h => okS_X9 _ (am_al_in h)) (Or.inl ⟨rfl, rfl⟩) (fun i z h => hm _ (am_al_in h))
theorem lX9_both_263 : GX9_both.2.2.2 263 = some (some 9, 0, fX9_findBoth) := rfl
theorem lX9_both_7 : GX9_both.1 7 = some (9, 0) := rfl
theorem lX9_both_35 : GX9_both.1 35 = some (9, 17) := rfl
noncomputable def MX9_carried : List (Nat × am_M) := [(94, (some 9, 2, fX9_isThing)), (75, (none, 3, fX9_within)), (263, (some 9, 0, fX9_findBoth)), (232, (some 9, 3, fX9_laidAt))]
noncomputable def GX9_carried : am_G := (am_al FX9, am_al KX9, am_al SX9, am_al MX9_carried)
noncomputable def fX9_carried : List Value → am_H → am_R := am_fn 2 GX9_carried cX9_carried 3
theorem kX9_carried (l : Launch) (D : va_G) (ad : Nat → Nat) (cA : Nat → ClassId) (A : Nat → Prop) (hlay : am_lays) : am_Met l D ad cA A yX9_carried cX9_carried 3 (some .long) { frames := 7, cells := 0, slots := 0, locals := 183 } fX9_carried := by
  have hm : ∀ e ∈ MX9_carried, am_cc l D ad cA A yX9_carried.cls { frames := 7, cells := 0, slots := 0, locals := 183 } e.1 e.2 := List.forall_mem_cons.mpr ⟨Or.inl ⟨yX9_isThing, cX9_isThing, 3, (some .boolean), { frames := 1, cells := 0, slots := 0, locals := 22 }, fX9_isThing, 2, 9, TX9, 39, rfl, kX9_isThing l D ad cA A hlay, ⟨wd_884, wd_64, wd_881, by decide +kernel⟩, wd_883, wd_28, rfl, by decide, rfl, rfl, by decide, by decide⟩, List.forall_mem_cons.mpr ⟨Or.inr (Or.inl ⟨yX9_within, cX9_within, 3, (some .boolean), { frames := 0, cells := 0, slots := 0, locals := 0 }, fX9_within, 3, rfl, kX9_within l D ad cA A hlay, ⟨wd_849, wd_64, wd_847, by decide +kernel⟩, wd_848, rfl, rfl, by decide, by decide⟩), List.forall_mem_cons.mpr ⟨Or.inl ⟨yX9_findBoth, cX9_findBoth, 2, (some .int), { frames := 6, cells := 0, slots := 0, locals := 162 }, fX9_findBoth, 0, 9, TX9, 39, rfl, kX9_findBoth l D ad cA A hlay, ⟨wd_1059, wd_64, wd_1056, by decide +kernel⟩, wd_1058, wd_49, rfl, by decide, rfl, rfl, by decide, by decide⟩, List.forall_mem_cons.mpr ⟨Or.inl ⟨yX9_laidAt, cX9_laidAt, 10, (some .long), { frames := 1, cells := 0, slots := 0, locals := 25 }, fX9_laidAt, 3, 9, TX9, 39, rfl, kX9_laidAt l D ad cA A hlay, ⟨wd_1020, wd_64, wd_1017, by decide +kernel⟩, wd_1019, wd_46, rfl, by decide, rfl, rfl, by decide, by decide⟩, fun _ h => absurd h List.not_mem_nil⟩⟩⟩⟩
  exact am_meth (G := GX9_carried) (rk := 2) (plainFor_of_name (by decide)) hlay (fun i z h => okF_X9 _ (am_al_in h)) (fun i z h => okK_X9 _ (am_al_in h)) (fun i z h => okS_X9 _ (am_al_in h)) (Or.inr (Or.inr (Or.inl ⟨rfl, rfl⟩))) (fun i z h => hm _ (am_al_in h))
theorem lX9_carried_94 : GX9_carried.2.2.2 94 = some (some 9, 2, fX9_isThing) := rfl
theorem lX9_carried_75 : GX9_carried.2.2.2 75 = some (none, 3, fX9_within) := rfl
theorem lX9_carried_263 : GX9_carried.2.2.2 263 = some (some 9, 0, fX9_findBoth) := rfl
theorem lX9_carried_232 : GX9_carried.2.2.2 232 = some (some 9, 3, fX9_laidAt) := rfl
theorem lX9_carried_251 : GX9_carried.2.1 251 = some (.long (-9223372036854775808)) := rfl
noncomputable def MX9_isMover : List (Nat × am_M) := []
noncomputable def GX9_isMover : am_G := (am_al FX9, am_al KX9, am_al SX9, am_al MX9_isMover)
noncomputable def fX9_isMover : List Value → am_H → am_R := am_fn 1 GX9_isMover cX9_isMover 5
theorem kX9_isMover (l : Launch) (D : va_G) (ad : Nat → Nat) (cA : Nat → ClassId) (A : Nat → Prop) (hlay : am_lays) : am_Met l D ad cA A yX9_isMover cX9_isMover 5 (some .boolean) { frames := 0, cells := 0, slots := 0, locals := 0 } fX9_isMover := by
  have hm : ∀ e ∈ MX9_isMover, am_cc l D ad cA A yX9_isMover.cls { frames := 0, cells := 0, slots := 0, locals := 0 } e.1 e.2 := fun _ h => absurd h List.not_mem_nil
  exact am_meth (G := GX9_isMover) (rk := 1) (plainFor_of_name (by decide)) hlay (fun i z h => okF_X9 _ (am_al_in h)) (fun i z h => okK_X9 _ (am_al_in h)) (fun i z h => okS_X9 _ (am_al_in h)) (Or.inr (Or.inl ⟨rfl, rfl⟩)) (fun i z h => hm _ (am_al_in h))
theorem lX9_isMover_267 : GX9_isMover.1 267 = some (9, 28) := rfl
noncomputable def MX9_mayMove : List (Nat × am_M) := [(193, (some 9, 2, fX9_hasSpot)), (270, (some 9, 2, fX9_isMover))]
noncomputable def GX9_mayMove : am_G := (am_al FX9, am_al KX9, am_al SX9, am_al MX9_mayMove)
noncomputable def fX9_mayMove : List Value → am_H → am_R := am_fn 1 GX9_mayMove cX9_mayMove 3
theorem kX9_mayMove (l : Launch) (D : va_G) (ad : Nat → Nat) (cA : Nat → ClassId) (A : Nat → Prop) (hlay : am_lays) : am_Met l D ad cA A yX9_mayMove cX9_mayMove 3 (some .boolean) { frames := 1, cells := 0, slots := 0, locals := 24 } fX9_mayMove := by
  have hm : ∀ e ∈ MX9_mayMove, am_cc l D ad cA A yX9_mayMove.cls { frames := 1, cells := 0, slots := 0, locals := 24 } e.1 e.2 := List.forall_mem_cons.mpr ⟨Or.inl ⟨yX9_hasSpot, cX9_hasSpot, 5, (some .boolean), { frames := 0, cells := 0, slots := 0, locals := 0 }, fX9_hasSpot, 2, 9, TX9, 39, rfl, kX9_hasSpot l D ad cA A hlay, ⟨wd_1000, wd_64, wd_997, by decide +kernel⟩, wd_999, wd_41, rfl, by decide, rfl, rfl, by decide, by decide⟩, List.forall_mem_cons.mpr ⟨Or.inl ⟨yX9_isMover, cX9_isMover, 5, (some .boolean), { frames := 0, cells := 0, slots := 0, locals := 0 }, fX9_isMover, 2, 9, TX9, 39, rfl, kX9_isMover l D ad cA A hlay, ⟨wd_1079, wd_64, wd_1076, by decide +kernel⟩, wd_1078, wd_52, rfl, by decide, rfl, rfl, by decide, by decide⟩, fun _ h => absurd h List.not_mem_nil⟩⟩
  exact am_meth (G := GX9_mayMove) (rk := 1) (plainFor_of_name (by decide)) hlay (fun i z h => okF_X9 _ (am_al_in h)) (fun i z h => okK_X9 _ (am_al_in h)) (fun i z h => okS_X9 _ (am_al_in h)) (Or.inr (Or.inl ⟨rfl, rfl⟩)) (fun i z h => hm _ (am_al_in h))
theorem lX9_mayMove_193 : GX9_mayMove.2.2.2 193 = some (some 9, 2, fX9_hasSpot) := rfl
theorem lX9_mayMove_44 : GX9_mayMove.1 44 = some (9, 29) := rfl
theorem lX9_mayMove_270 : GX9_mayMove.2.2.2 270 = some (some 9, 2, fX9_isMover) := rfl
theorem lX9_mayMove_47 : GX9_mayMove.1 47 = some (9, 30) := rfl
noncomputable def MX9_findMover : List (Nat × am_M) := [(274, (some 9, 2, fX9_mayMove)), (235, (some 9, 4, fX9_squareTo))]
noncomputable def GX9_findMover : am_G := (am_al FX9, am_al KX9, am_al SX9, am_al MX9_findMover)
noncomputable def fX9_findMover : List Value → am_H → am_R := am_fn 1 GX9_findMover cX9_findMover 9
theorem kX9_findMover (l : Launch) (D : va_G) (ad : Nat → Nat) (cA : Nat → ClassId) (A : Nat → Prop) (hlay : am_lays) : am_Met l D ad cA A yX9_findMover cX9_findMover 9 (some .boolean) { frames := 3, cells := 0, slots := 0, locals := 82 } fX9_findMover := by
  have hm : ∀ e ∈ MX9_findMover, am_cc l D ad cA A yX9_findMover.cls { frames := 3, cells := 0, slots := 0, locals := 82 } e.1 e.2 := List.forall_mem_cons.mpr ⟨Or.inl ⟨yX9_mayMove, cX9_mayMove, 3, (some .boolean), { frames := 1, cells := 0, slots := 0, locals := 24 }, fX9_mayMove, 2, 9, TX9, 39, rfl, kX9_mayMove l D ad cA A hlay, ⟨wd_1075, wd_64, wd_1072, by decide +kernel⟩, wd_1074, wd_51, rfl, by decide, rfl, rfl, by decide, by decide⟩, List.forall_mem_cons.mpr ⟨Or.inl ⟨yX9_squareTo, cX9_squareTo, 9, (some .long), { frames := 2, cells := 0, slots := 0, locals := 54 }, fX9_squareTo, 4, 9, TX9, 39, rfl, kX9_squareTo l D ad cA A hlay, ⟨wd_1016, wd_64, wd_1013, by decide +kernel⟩, wd_1015, wd_45, rfl, by decide, rfl, rfl, by decide, by decide⟩, fun _ h => absurd h List.not_mem_nil⟩⟩
  exact am_meth (G := GX9_findMover) (rk := 1) (plainFor_of_name (by decide)) hlay (fun i z h => okF_X9 _ (am_al_in h)) (fun i z h => okK_X9 _ (am_al_in h)) (fun i z h => okS_X9 _ (am_al_in h)) (Or.inr (Or.inl ⟨rfl, rfl⟩)) (fun i z h => hm _ (am_al_in h))
theorem lX9_findMover_7 : GX9_findMover.1 7 = some (9, 0) := rfl
theorem lX9_findMover_274 : GX9_findMover.2.2.2 274 = some (some 9, 2, fX9_mayMove) := rfl
theorem lX9_findMover_235 : GX9_findMover.2.2.2 235 = some (some 9, 4, fX9_squareTo) := rfl
theorem lX9_findMover_251 : GX9_findMover.2.1 251 = some (.long (-9223372036854775808)) := rfl
theorem lX9_findMover_23 : GX9_findMover.1 23 = some (9, 4) := rfl
theorem lX9_findMover_44 : GX9_findMover.1 44 = some (9, 29) := rfl
theorem lX9_findMover_267 : GX9_findMover.1 267 = some (9, 28) := rfl
theorem lX9_findMover_47 : GX9_findMover.1 47 = some (9, 30) := rfl
theorem lX9_findMover_50 : GX9_findMover.1 50 = some (9, 31) := rfl
noncomputable def MX9_mover : List (Nat × am_M) := [(75, (none, 3, fX9_within)), (263, (some 9, 0, fX9_findBoth)), (277, (some 9, 0, fX9_findMover))]
noncomputable def GX9_mover : am_G := (am_al FX9, am_al KX9, am_al SX9, am_al MX9_mover)
noncomputable def fX9_mover : List Value → am_H → am_R := am_fn 0 GX9_mover cX9_mover 4
theorem kX9_mover (l : Launch) (D : va_G) (ad : Nat → Nat) (cA : Nat → ClassId) (A : Nat → Prop) (hlay : am_lays) : am_Met l D ad cA A yX9_mover cX9_mover 4 (some .int) { frames := 7, cells := 0, slots := 0, locals := 183 } fX9_mover := by
  have hm : ∀ e ∈ MX9_mover, am_cc l D ad cA A yX9_mover.cls { frames := 7, cells := 0, slots := 0, locals := 183 } e.1 e.2 := List.forall_mem_cons.mpr ⟨Or.inr (Or.inl ⟨yX9_within, cX9_within, 3, (some .boolean), { frames := 0, cells := 0, slots := 0, locals := 0 }, fX9_within, 3, rfl, kX9_within l D ad cA A hlay, ⟨wd_849, wd_64, wd_847, by decide +kernel⟩, wd_848, rfl, rfl, by decide, by decide⟩), List.forall_mem_cons.mpr ⟨Or.inl ⟨yX9_findBoth, cX9_findBoth, 2, (some .int), { frames := 6, cells := 0, slots := 0, locals := 162 }, fX9_findBoth, 0, 9, TX9, 39, rfl, kX9_findBoth l D ad cA A hlay, ⟨wd_1059, wd_64, wd_1056, by decide +kernel⟩, wd_1058, wd_49, rfl, by decide, rfl, rfl, by decide, by decide⟩, List.forall_mem_cons.mpr ⟨Or.inl ⟨yX9_findMover, cX9_findMover, 9, (some .boolean), { frames := 3, cells := 0, slots := 0, locals := 82 }, fX9_findMover, 0, 9, TX9, 39, rfl, kX9_findMover l D ad cA A hlay, ⟨wd_1071, wd_64, wd_1068, by decide +kernel⟩, wd_1070, wd_50, rfl, by decide, rfl, rfl, by decide, by decide⟩, fun _ h => absurd h List.not_mem_nil⟩⟩⟩
  exact am_meth (G := GX9_mover) (rk := 0) (plainFor_of_name (by decide)) hlay (fun i z h => okF_X9 _ (am_al_in h)) (fun i z h => okK_X9 _ (am_al_in h)) (fun i z h => okS_X9 _ (am_al_in h)) (Or.inl ⟨rfl, rfl⟩) (fun i z h => hm _ (am_al_in h))
theorem lX9_mover_75 : GX9_mover.2.2.2 75 = some (none, 3, fX9_within) := rfl
theorem lX9_mover_267 : GX9_mover.1 267 = some (9, 28) := rfl
theorem lX9_mover_263 : GX9_mover.2.2.2 263 = some (some 9, 0, fX9_findBoth) := rfl
theorem lX9_mover_277 : GX9_mover.2.2.2 277 = some (some 9, 0, fX9_findMover) := rfl
theorem lX9_mover_44 : GX9_mover.1 44 = some (9, 29) := rfl
theorem lX9_mover_47 : GX9_mover.1 47 = some (9, 30) := rfl
theorem lX9_mover_50 : GX9_mover.1 50 = some (9, 31) := rfl
noncomputable def MX9_blinks : List (Nat × am_M) := [(248, (some 9, 1, fX9_findCleaned))]
noncomputable def GX9_blinks : am_G := (am_al FX9, am_al KX9, am_al SX9, am_al MX9_blinks)
noncomputable def fX9_blinks : List Value → am_H → am_R := am_fn 0 GX9_blinks cX9_blinks 7
theorem kX9_blinks (l : Launch) (D : va_G) (ad : Nat → Nat) (cA : Nat → ClassId) (A : Nat → Prop) (hlay : am_lays) : am_Met l D ad cA A yX9_blinks cX9_blinks 7 (some .int) { frames := 6, cells := 0, slots := 0, locals := 162 } fX9_blinks := by
  have hm : ∀ e ∈ MX9_blinks, am_cc l D ad cA A yX9_blinks.cls { frames := 6, cells := 0, slots := 0, locals := 162 } e.1 e.2 := List.forall_mem_cons.mpr ⟨Or.inl ⟨yX9_findCleaned, cX9_findCleaned, 6, (some .int), { frames := 5, cells := 0, slots := 0, locals := 137 }, fX9_findCleaned, 1, 9, TX9, 39, rfl, kX9_findCleaned l D ad cA A hlay, ⟨wd_988, wd_64, wd_985, by decide +kernel⟩, wd_987, wd_38, rfl, by decide, rfl, rfl, by decide, by decide⟩, fun _ h => absurd h List.not_mem_nil⟩
  exact am_meth (G := GX9_blinks) (rk := 0) (plainFor_of_name (by decide)) hlay (fun i z h => okF_X9 _ (am_al_in h)) (fun i z h => okK_X9 _ (am_al_in h)) (fun i z h => okS_X9 _ (am_al_in h)) (Or.inl ⟨rfl, rfl⟩) (fun i z h => hm _ (am_al_in h))
theorem lX9_blinks_248 : GX9_blinks.2.2.2 248 = some (some 9, 1, fX9_findCleaned) := rfl
theorem lX9_blinks_7 : GX9_blinks.1 7 = some (9, 0) := rfl
theorem lX9_blinks_35 : GX9_blinks.1 35 = some (9, 17) := rfl
theorem lX9_blinks_19 : GX9_blinks.1 19 = some (9, 3) := rfl
theorem lX9_blinks_23 : GX9_blinks.1 23 = some (9, 4) := rfl
noncomputable def MX9_keep : List (Nat × am_M) := [(90, (none, 1, fX9_isPlate)), (75, (none, 3, fX9_within))]
noncomputable def GX9_keep : am_G := (am_al FX9, am_al KX9, am_al SX9, am_al MX9_keep)
noncomputable def fX9_keep : List Value → am_H → am_R := am_fn 0 GX9_keep cX9_keep 4
theorem kX9_keep (l : Launch) (D : va_G) (ad : Nat → Nat) (cA : Nat → ClassId) (A : Nat → Prop) (hlay : am_lays) : am_Met l D ad cA A yX9_keep cX9_keep 4 (some .int) { frames := 2, cells := 0, slots := 0, locals := 42 } fX9_keep := by
  have hm : ∀ e ∈ MX9_keep, am_cc l D ad cA A yX9_keep.cls { frames := 2, cells := 0, slots := 0, locals := 42 } e.1 e.2 := List.forall_mem_cons.mpr ⟨Or.inr (Or.inl ⟨yX9_isPlate, cX9_isPlate, 1, (some .boolean), { frames := 1, cells := 0, slots := 0, locals := 22 }, fX9_isPlate, 1, rfl, kX9_isPlate l D ad cA A hlay, ⟨wd_872, wd_64, wd_870, by decide +kernel⟩, wd_871, rfl, rfl, by decide, by decide⟩), List.forall_mem_cons.mpr ⟨Or.inr (Or.inl ⟨yX9_within, cX9_within, 3, (some .boolean), { frames := 0, cells := 0, slots := 0, locals := 0 }, fX9_within, 3, rfl, kX9_within l D ad cA A hlay, ⟨wd_849, wd_64, wd_847, by decide +kernel⟩, wd_848, rfl, rfl, by decide, by decide⟩), fun _ h => absurd h List.not_mem_nil⟩⟩
  exact am_meth (G := GX9_keep) (rk := 0) (plainFor_of_name (by decide)) hlay (fun i z h => okF_X9 _ (am_al_in h)) (fun i z h => okK_X9 _ (am_al_in h)) (fun i z h => okS_X9 _ (am_al_in h)) (Or.inl ⟨rfl, rfl⟩) (fun i z h => hm _ (am_al_in h))
theorem lX9_keep_90 : GX9_keep.2.2.2 90 = some (none, 1, fX9_isPlate) := rfl
theorem lX9_keep_75 : GX9_keep.2.2.2 75 = some (none, 3, fX9_within) := rfl
theorem lX9_keep_54 : GX9_keep.1 54 = some (9, 32) := rfl
theorem lX9_keep_7 : GX9_keep.1 7 = some (9, 0) := rfl
theorem lX9_keep_57 : GX9_keep.1 57 = some (9, 33) := rfl
theorem lX9_keep_13 : GX9_keep.1 13 = some (9, 1) := rfl
theorem lX9_keep_60 : GX9_keep.1 60 = some (9, 34) := rfl
theorem lX9_keep_16 : GX9_keep.1 16 = some (9, 2) := rfl
theorem lX9_keep_63 : GX9_keep.1 63 = some (9, 35) := rfl
theorem lX9_keep_19 : GX9_keep.1 19 = some (9, 3) := rfl
noncomputable def MX9_restore : List (Nat × am_M) := [(90, (none, 1, fX9_isPlate)), (75, (none, 3, fX9_within))]
noncomputable def GX9_restore : am_G := (am_al FX9, am_al KX9, am_al SX9, am_al MX9_restore)
noncomputable def fX9_restore : List Value → am_H → am_R := am_fn 0 GX9_restore cX9_restore 4
theorem kX9_restore (l : Launch) (D : va_G) (ad : Nat → Nat) (cA : Nat → ClassId) (A : Nat → Prop) (hlay : am_lays) : am_Met l D ad cA A yX9_restore cX9_restore 4 (some .int) { frames := 2, cells := 0, slots := 0, locals := 42 } fX9_restore := by
  have hm : ∀ e ∈ MX9_restore, am_cc l D ad cA A yX9_restore.cls { frames := 2, cells := 0, slots := 0, locals := 42 } e.1 e.2 := List.forall_mem_cons.mpr ⟨Or.inr (Or.inl ⟨yX9_isPlate, cX9_isPlate, 1, (some .boolean), { frames := 1, cells := 0, slots := 0, locals := 22 }, fX9_isPlate, 1, rfl, kX9_isPlate l D ad cA A hlay, ⟨wd_872, wd_64, wd_870, by decide +kernel⟩, wd_871, rfl, rfl, by decide, by decide⟩), List.forall_mem_cons.mpr ⟨Or.inr (Or.inl ⟨yX9_within, cX9_within, 3, (some .boolean), { frames := 0, cells := 0, slots := 0, locals := 0 }, fX9_within, 3, rfl, kX9_within l D ad cA A hlay, ⟨wd_849, wd_64, wd_847, by decide +kernel⟩, wd_848, rfl, rfl, by decide, by decide⟩), fun _ h => absurd h List.not_mem_nil⟩⟩
  exact am_meth (G := GX9_restore) (rk := 0) (plainFor_of_name (by decide)) hlay (fun i z h => okF_X9 _ (am_al_in h)) (fun i z h => okK_X9 _ (am_al_in h)) (fun i z h => okS_X9 _ (am_al_in h)) (Or.inl ⟨rfl, rfl⟩) (fun i z h => hm _ (am_al_in h))
theorem lX9_restore_90 : GX9_restore.2.2.2 90 = some (none, 1, fX9_isPlate) := rfl
theorem lX9_restore_75 : GX9_restore.2.2.2 75 = some (none, 3, fX9_within) := rfl
theorem lX9_restore_54 : GX9_restore.1 54 = some (9, 32) := rfl
theorem lX9_restore_7 : GX9_restore.1 7 = some (9, 0) := rfl
theorem lX9_restore_13 : GX9_restore.1 13 = some (9, 1) := rfl
theorem lX9_restore_57 : GX9_restore.1 57 = some (9, 33) := rfl
theorem lX9_restore_16 : GX9_restore.1 16 = some (9, 2) := rfl
theorem lX9_restore_60 : GX9_restore.1 60 = some (9, 34) := rfl
theorem lX9_restore_19 : GX9_restore.1 19 = some (9, 3) := rfl
theorem lX9_restore_63 : GX9_restore.1 63 = some (9, 35) := rfl
noncomputable def MX9_isTray : List (Nat × am_M) := [(75, (none, 3, fX9_within))]
noncomputable def GX9_isTray : am_G := (am_al FX9, am_al KX9, am_al SX9, am_al MX9_isTray)
noncomputable def fX9_isTray : List Value → am_H → am_R := am_fn 1 GX9_isTray cX9_isTray 1
theorem kX9_isTray (l : Launch) (D : va_G) (ad : Nat → Nat) (cA : Nat → ClassId) (A : Nat → Prop) (hlay : am_lays) : am_Met l D ad cA A yX9_isTray cX9_isTray 1 (some .boolean) { frames := 1, cells := 0, slots := 0, locals := 22 } fX9_isTray := by
  have hm : ∀ e ∈ MX9_isTray, am_cc l D ad cA A yX9_isTray.cls { frames := 1, cells := 0, slots := 0, locals := 22 } e.1 e.2 := List.forall_mem_cons.mpr ⟨Or.inr (Or.inl ⟨yX9_within, cX9_within, 3, (some .boolean), { frames := 0, cells := 0, slots := 0, locals := 0 }, fX9_within, 3, rfl, kX9_within l D ad cA A hlay, ⟨wd_849, wd_64, wd_847, by decide +kernel⟩, wd_848, rfl, rfl, by decide, by decide⟩), fun _ h => absurd h List.not_mem_nil⟩
  exact am_meth (G := GX9_isTray) (rk := 1) (plainFor_of_name (by decide)) hlay (fun i z h => okF_X9 _ (am_al_in h)) (fun i z h => okK_X9 _ (am_al_in h)) (fun i z h => okS_X9 _ (am_al_in h)) (Or.inr (Or.inl ⟨rfl, rfl⟩)) (fun i z h => hm _ (am_al_in h))
theorem lX9_isTray_75 : GX9_isTray.2.2.2 75 = some (none, 3, fX9_within) := rfl
noncomputable def MX9_tray : List (Nat × am_M) := [(281, (none, 1, fX9_isTray)), (75, (none, 3, fX9_within))]
noncomputable def GX9_tray : am_G := (am_al FX9, am_al KX9, am_al SX9, am_al MX9_tray)
noncomputable def fX9_tray : List Value → am_H → am_R := am_fn 0 GX9_tray cX9_tray 5
theorem kX9_tray (l : Launch) (D : va_G) (ad : Nat → Nat) (cA : Nat → ClassId) (A : Nat → Prop) (hlay : am_lays) : am_Met l D ad cA A yX9_tray cX9_tray 5 (some .int) { frames := 2, cells := 0, slots := 0, locals := 42 } fX9_tray := by
  have hm : ∀ e ∈ MX9_tray, am_cc l D ad cA A yX9_tray.cls { frames := 2, cells := 0, slots := 0, locals := 42 } e.1 e.2 := List.forall_mem_cons.mpr ⟨Or.inr (Or.inl ⟨yX9_isTray, cX9_isTray, 1, (some .boolean), { frames := 1, cells := 0, slots := 0, locals := 22 }, fX9_isTray, 1, rfl, kX9_isTray l D ad cA A hlay, ⟨wd_1098, wd_64, wd_1096, by decide +kernel⟩, wd_1097, rfl, rfl, by decide, by decide⟩), List.forall_mem_cons.mpr ⟨Or.inr (Or.inl ⟨yX9_within, cX9_within, 3, (some .boolean), { frames := 0, cells := 0, slots := 0, locals := 0 }, fX9_within, 3, rfl, kX9_within l D ad cA A hlay, ⟨wd_849, wd_64, wd_847, by decide +kernel⟩, wd_848, rfl, rfl, by decide, by decide⟩), fun _ h => absurd h List.not_mem_nil⟩⟩
  exact am_meth (G := GX9_tray) (rk := 0) (plainFor_of_name (by decide)) hlay (fun i z h => okF_X9 _ (am_al_in h)) (fun i z h => okK_X9 _ (am_al_in h)) (fun i z h => okS_X9 _ (am_al_in h)) (Or.inl ⟨rfl, rfl⟩) (fun i z h => hm _ (am_al_in h))
theorem lX9_tray_281 : GX9_tray.2.2.2 281 = some (none, 1, fX9_isTray) := rfl
theorem lX9_tray_75 : GX9_tray.2.2.2 75 = some (none, 3, fX9_within) := rfl
theorem lX9_tray_66 : GX9_tray.1 66 = some (9, 36) := rfl
theorem lX9_tray_69 : GX9_tray.1 69 = some (9, 37) := rfl
theorem lX9_tray_72 : GX9_tray.1 72 = some (9, 38) := rfl
noncomputable def MX9_faultOf : List (Nat × am_M) := [(75, (none, 3, fX9_within))]
noncomputable def GX9_faultOf : am_G := (am_al FX9, am_al KX9, am_al SX9, am_al MX9_faultOf)
noncomputable def fX9_faultOf : List Value → am_H → am_R := am_fn 0 GX9_faultOf cX9_faultOf 3
theorem kX9_faultOf (l : Launch) (D : va_G) (ad : Nat → Nat) (cA : Nat → ClassId) (A : Nat → Prop) (hlay : am_lays) : am_Met l D ad cA A yX9_faultOf cX9_faultOf 3 (some .int) { frames := 1, cells := 0, slots := 0, locals := 22 } fX9_faultOf := by
  have hm : ∀ e ∈ MX9_faultOf, am_cc l D ad cA A yX9_faultOf.cls { frames := 1, cells := 0, slots := 0, locals := 22 } e.1 e.2 := List.forall_mem_cons.mpr ⟨Or.inr (Or.inl ⟨yX9_within, cX9_within, 3, (some .boolean), { frames := 0, cells := 0, slots := 0, locals := 0 }, fX9_within, 3, rfl, kX9_within l D ad cA A hlay, ⟨wd_849, wd_64, wd_847, by decide +kernel⟩, wd_848, rfl, rfl, by decide, by decide⟩), fun _ h => absurd h List.not_mem_nil⟩
  exact am_meth (G := GX9_faultOf) (rk := 0) (plainFor_of_name (by decide)) hlay (fun i z h => okF_X9 _ (am_al_in h)) (fun i z h => okK_X9 _ (am_al_in h)) (fun i z h => okS_X9 _ (am_al_in h)) (Or.inl ⟨rfl, rfl⟩) (fun i z h => hm _ (am_al_in h))
theorem lX9_faultOf_66 : GX9_faultOf.1 66 = some (9, 36) := rfl
theorem lX9_faultOf_75 : GX9_faultOf.2.2.2 75 = some (none, 3, fX9_within) := rfl
noncomputable def MX9_lay : List (Nat × am_M) := [(281, (none, 1, fX9_isTray)), (75, (none, 3, fX9_within)), (94, (some 9, 2, fX9_isThing)), (284, (some 9, 2, fX9_faultOf))]
noncomputable def GX9_lay : am_G := (am_al FX9, am_al KX9, am_al SX9, am_al MX9_lay)
noncomputable def fX9_lay : List Value → am_H → am_R := am_fn 0 GX9_lay cX9_lay 6
theorem kX9_lay (l : Launch) (D : va_G) (ad : Nat → Nat) (cA : Nat → ClassId) (A : Nat → Prop) (hlay : am_lays) : am_Met l D ad cA A yX9_lay cX9_lay 6 (some .int) { frames := 2, cells := 0, slots := 0, locals := 44 } fX9_lay := by
  have hm : ∀ e ∈ MX9_lay, am_cc l D ad cA A yX9_lay.cls { frames := 2, cells := 0, slots := 0, locals := 44 } e.1 e.2 := List.forall_mem_cons.mpr ⟨Or.inr (Or.inl ⟨yX9_isTray, cX9_isTray, 1, (some .boolean), { frames := 1, cells := 0, slots := 0, locals := 22 }, fX9_isTray, 1, rfl, kX9_isTray l D ad cA A hlay, ⟨wd_1098, wd_64, wd_1096, by decide +kernel⟩, wd_1097, rfl, rfl, by decide, by decide⟩), List.forall_mem_cons.mpr ⟨Or.inr (Or.inl ⟨yX9_within, cX9_within, 3, (some .boolean), { frames := 0, cells := 0, slots := 0, locals := 0 }, fX9_within, 3, rfl, kX9_within l D ad cA A hlay, ⟨wd_849, wd_64, wd_847, by decide +kernel⟩, wd_848, rfl, rfl, by decide, by decide⟩), List.forall_mem_cons.mpr ⟨Or.inl ⟨yX9_isThing, cX9_isThing, 3, (some .boolean), { frames := 1, cells := 0, slots := 0, locals := 22 }, fX9_isThing, 2, 9, TX9, 39, rfl, kX9_isThing l D ad cA A hlay, ⟨wd_884, wd_64, wd_881, by decide +kernel⟩, wd_883, wd_28, rfl, by decide, rfl, rfl, by decide, by decide⟩, List.forall_mem_cons.mpr ⟨Or.inl ⟨yX9_faultOf, cX9_faultOf, 3, (some .int), { frames := 1, cells := 0, slots := 0, locals := 22 }, fX9_faultOf, 2, 9, TX9, 39, rfl, kX9_faultOf l D ad cA A hlay, ⟨wd_1106, wd_64, wd_1103, by decide +kernel⟩, wd_1105, wd_53, rfl, by decide, rfl, rfl, by decide, by decide⟩, fun _ h => absurd h List.not_mem_nil⟩⟩⟩⟩
  exact am_meth (G := GX9_lay) (rk := 0) (plainFor_of_name (by decide)) hlay (fun i z h => okF_X9 _ (am_al_in h)) (fun i z h => okK_X9 _ (am_al_in h)) (fun i z h => okS_X9 _ (am_al_in h)) (Or.inl ⟨rfl, rfl⟩) (fun i z h => hm _ (am_al_in h))
theorem lX9_lay_281 : GX9_lay.2.2.2 281 = some (none, 1, fX9_isTray) := rfl
theorem lX9_lay_75 : GX9_lay.2.2.2 75 = some (none, 3, fX9_within) := rfl
theorem lX9_lay_94 : GX9_lay.2.2.2 94 = some (some 9, 2, fX9_isThing) := rfl
theorem lX9_lay_284 : GX9_lay.2.2.2 284 = some (some 9, 2, fX9_faultOf) := rfl
theorem lX9_lay_69 : GX9_lay.1 69 = some (9, 37) := rfl
theorem lX9_lay_72 : GX9_lay.1 72 = some (9, 38) := rfl
noncomputable def MX9_seen : List (Nat × am_M) := [(281, (none, 1, fX9_isTray)), (284, (some 9, 2, fX9_faultOf))]
noncomputable def GX9_seen : am_G := (am_al FX9, am_al KX9, am_al SX9, am_al MX9_seen)
noncomputable def fX9_seen : List Value → am_H → am_R := am_fn 0 GX9_seen cX9_seen 4
theorem kX9_seen (l : Launch) (D : va_G) (ad : Nat → Nat) (cA : Nat → ClassId) (A : Nat → Prop) (hlay : am_lays) : am_Met l D ad cA A yX9_seen cX9_seen 4 (some .int) { frames := 2, cells := 0, slots := 0, locals := 44 } fX9_seen := by
  have hm : ∀ e ∈ MX9_seen, am_cc l D ad cA A yX9_seen.cls { frames := 2, cells := 0, slots := 0, locals := 44 } e.1 e.2 := List.forall_mem_cons.mpr ⟨Or.inr (Or.inl ⟨yX9_isTray, cX9_isTray, 1, (some .boolean), { frames := 1, cells := 0, slots := 0, locals := 22 }, fX9_isTray, 1, rfl, kX9_isTray l D ad cA A hlay, ⟨wd_1098, wd_64, wd_1096, by decide +kernel⟩, wd_1097, rfl, rfl, by decide, by decide⟩), List.forall_mem_cons.mpr ⟨Or.inl ⟨yX9_faultOf, cX9_faultOf, 3, (some .int), { frames := 1, cells := 0, slots := 0, locals := 22 }, fX9_faultOf, 2, 9, TX9, 39, rfl, kX9_faultOf l D ad cA A hlay, ⟨wd_1106, wd_64, wd_1103, by decide +kernel⟩, wd_1105, wd_53, rfl, by decide, rfl, rfl, by decide, by decide⟩, fun _ h => absurd h List.not_mem_nil⟩⟩
  exact am_meth (G := GX9_seen) (rk := 0) (plainFor_of_name (by decide)) hlay (fun i z h => okF_X9 _ (am_al_in h)) (fun i z h => okK_X9 _ (am_al_in h)) (fun i z h => okS_X9 _ (am_al_in h)) (Or.inl ⟨rfl, rfl⟩) (fun i z h => hm _ (am_al_in h))
theorem lX9_seen_281 : GX9_seen.2.2.2 281 = some (none, 1, fX9_isTray) := rfl
theorem lX9_seen_284 : GX9_seen.2.2.2 284 = some (some 9, 2, fX9_faultOf) := rfl
theorem lX9_seen_72 : GX9_seen.1 72 = some (9, 38) := rfl
noncomputable def MX9_thatAre : List (Nat × am_M) := []
noncomputable def GX9_thatAre : am_G := (am_al FX9, am_al KX9, am_al SX9, am_al MX9_thatAre)
noncomputable def fX9_thatAre : List Value → am_H → am_R := am_fn 0 GX9_thatAre cX9_thatAre 4
theorem kX9_thatAre (l : Launch) (D : va_G) (ad : Nat → Nat) (cA : Nat → ClassId) (A : Nat → Prop) (hlay : am_lays) : am_Met l D ad cA A yX9_thatAre cX9_thatAre 4 (some .int) { frames := 0, cells := 0, slots := 0, locals := 0 } fX9_thatAre := by
  have hm : ∀ e ∈ MX9_thatAre, am_cc l D ad cA A yX9_thatAre.cls { frames := 0, cells := 0, slots := 0, locals := 0 } e.1 e.2 := fun _ h => absurd h List.not_mem_nil
  exact am_meth (G := GX9_thatAre) (rk := 0) (plainFor_of_name (by decide)) hlay (fun i z h => okF_X9 _ (am_al_in h)) (fun i z h => okK_X9 _ (am_al_in h)) (fun i z h => okS_X9 _ (am_al_in h)) (Or.inl ⟨rfl, rfl⟩) (fun i z h => hm _ (am_al_in h))
noncomputable def MX9_many : List (Nat × am_M) := [(238, (some 9, 1, fX9_findMatch)), (248, (some 9, 1, fX9_findCleaned)), (287, (none, 2, fX9_thatAre))]
noncomputable def GX9_many : am_G := (am_al FX9, am_al KX9, am_al SX9, am_al MX9_many)
noncomputable def fX9_many : List Value → am_H → am_R := am_fn 0 GX9_many cX9_many 2
theorem kX9_many (l : Launch) (D : va_G) (ad : Nat → Nat) (cA : Nat → ClassId) (A : Nat → Prop) (hlay : am_lays) : am_Met l D ad cA A yX9_many cX9_many 2 (some .int) { frames := 6, cells := 0, slots := 0, locals := 162 } fX9_many := by
  have hm : ∀ e ∈ MX9_many, am_cc l D ad cA A yX9_many.cls { frames := 6, cells := 0, slots := 0, locals := 162 } e.1 e.2 := List.forall_mem_cons.mpr ⟨Or.inl ⟨yX9_findMatch, cX9_findMatch, 4, (some .int), { frames := 4, cells := 0, slots := 0, locals := 114 }, fX9_findMatch, 1, 9, TX9, 39, rfl, kX9_findMatch l D ad cA A hlay, ⟨wd_992, wd_64, wd_989, by decide +kernel⟩, wd_991, wd_39, rfl, by decide, rfl, rfl, by decide, by decide⟩, List.forall_mem_cons.mpr ⟨Or.inl ⟨yX9_findCleaned, cX9_findCleaned, 6, (some .int), { frames := 5, cells := 0, slots := 0, locals := 137 }, fX9_findCleaned, 1, 9, TX9, 39, rfl, kX9_findCleaned l D ad cA A hlay, ⟨wd_988, wd_64, wd_985, by decide +kernel⟩, wd_987, wd_38, rfl, by decide, rfl, rfl, by decide, by decide⟩, List.forall_mem_cons.mpr ⟨Or.inr (Or.inl ⟨yX9_thatAre, cX9_thatAre, 4, (some .int), { frames := 0, cells := 0, slots := 0, locals := 0 }, fX9_thatAre, 2, rfl, kX9_thatAre l D ad cA A hlay, ⟨wd_1117, wd_64, wd_1115, by decide +kernel⟩, wd_1116, rfl, rfl, by decide, by decide⟩), fun _ h => absurd h List.not_mem_nil⟩⟩⟩
  exact am_meth (G := GX9_many) (rk := 0) (plainFor_of_name (by decide)) hlay (fun i z h => okF_X9 _ (am_al_in h)) (fun i z h => okK_X9 _ (am_al_in h)) (fun i z h => okS_X9 _ (am_al_in h)) (Or.inl ⟨rfl, rfl⟩) (fun i z h => hm _ (am_al_in h))
theorem lX9_many_7 : GX9_many.1 7 = some (9, 0) := rfl
theorem lX9_many_238 : GX9_many.2.2.2 238 = some (some 9, 1, fX9_findMatch) := rfl
theorem lX9_many_248 : GX9_many.2.2.2 248 = some (some 9, 1, fX9_findCleaned) := rfl
theorem lX9_many_66 : GX9_many.1 66 = some (9, 36) := rfl
theorem lX9_many_287 : GX9_many.2.2.2 287 = some (none, 2, fX9_thatAre) := rfl
theorem lX9_many_54 : GX9_many.1 54 = some (9, 32) := rfl
