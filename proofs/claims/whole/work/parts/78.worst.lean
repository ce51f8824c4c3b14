/-! the pair that is off the most -/
abbrev wd_S : Type := Option Nat × Int64
def wd_st (f : Nat × Nat → Int64) (w : wd_S) (a : Nat × Nat) : wd_S := if w.2 < f a then (some a.1, f a) else w
def wd (f : Nat × Nat → Int64) (L : Int64) (l : List (Nat × Nat)) : wd_S := l.foldl (wd_st f) (none, L)
theorem wd_a (f : Nat × Nat → Int64) (L : Int64) (l : List (Nat × Nat)) (a : Nat × Nat) : wd f L (l ++ [a]) = wd_st f (wd f L l) a := by
  unfold wd
  rw [List.foldl_append]
  rfl
/-- the first of those that are off the most -/
def fm_st (f : Nat × Nat → Int64) (w a : Nat × Nat) : Nat × Nat := if f w < f a then a else w
def fm (f : Nat × Nat → Int64) (b : Nat × Nat) (l : List (Nat × Nat)) : Nat × Nat := l.foldl (fm_st f) b
theorem fm_a (f : Nat × Nat → Int64) (b : Nat × Nat) (l : List (Nat × Nat)) (a : Nat × Nat) : fm f b (l ++ [a]) = fm_st f (fm f b l) a := by
  unfold fm
  rw [List.foldl_append]
  rfl
theorem fm_in (f : Nat × Nat → Int64) (b : Nat × Nat) (l : List (Nat × Nat)) : fm f b l ∈ b :: l := by
  unfold fm
  induction l generalizing b with
  | nil => simp
  | cons a l ih =>
    have := ih (fm_st f b a)
    rw [List.foldl_cons]
    rcases List.mem_cons.mp this with e | e
    · rw [e]
      unfold fm_st
      split <;> simp
    · exact List.mem_cons_of_mem _ (List.mem_cons_of_mem _ e)
def wd_is (f : Nat × Nat → Int64) (L : Int64) (w : wd_S) (b : Nat × Nat) : Prop := (L < f b → w = (some b.1, f b)) ∧ (¬ L < f b → w = (none, L))
theorem wd_s (f : Nat × Nat → Int64) (L : Int64) (w : wd_S) (b a : Nat × Nat) (h : wd_is f L w b) : wd_is f L (wd_st f w a) (fm_st f b a) := by
  unfold wd_st fm_st
  by_cases c : L < f b
  · rw [h.1 c]
    dsimp only
    by_cases d : f b < f a
    · rw [if_pos d, if_pos d]
      exact ⟨fun _ => rfl, fun e => absurd (Int64.lt_trans c d) e⟩
    · rw [if_neg d, if_neg d]
      exact ⟨fun _ => rfl, fun e => absurd c e⟩
  · rw [h.2 c]
    dsimp only
    by_cases d : L < f a
    · have e : f b < f a := Int64.lt_of_le_of_lt (Int64.not_lt.mp c) d
      rw [if_pos d, if_pos e]
      exact ⟨fun _ => rfl, fun e => absurd d e⟩
    · rw [if_neg d]
      by_cases e : f b < f a
      · rw [if_pos e]
        exact ⟨fun g => absurd g d, fun _ => rfl⟩
      · rw [if_neg e]
        exact ⟨fun g => absurd g c, fun _ => rfl⟩
theorem wd_f (f : Nat × Nat → Int64) (L : Int64) (l : List (Nat × Nat)) (w : wd_S) (b : Nat × Nat) (h : wd_is f L w b) : wd_is f L (l.foldl (wd_st f) w) (fm f b l) := by
  unfold fm
  induction l generalizing w b with
  | nil => exact h
  | cons a l ih => exact ih _ _ (wd_s f L w b a h)
theorem wd_fm (f : Nat × Nat → Int64) (L : Int64) (b : Nat × Nat) (l : List (Nat × Nat)) : wd_is f L (wd f L (b :: l)) (fm f b l) := by
  unfold wd
  rw [List.foldl_cons]
  refine wd_f f L l _ b ?_
  unfold wd_st
  dsimp only
  by_cases c : L < f b
  · rw [if_pos c]
    exact ⟨fun _ => rfl, fun e => absurd c e⟩
  · rw [if_neg c]
    exact ⟨fun e => absurd e c, fun _ => rfl⟩
