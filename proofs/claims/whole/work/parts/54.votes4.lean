/-! votes, both -/
/-- what a call starts from is as it was; all scratch may differ -/
def bs_fr (h k : am_H) : Prop := ∀ a, (a ≤ 31 ∨ (78 ≤ a ∧ a ≤ 82) ∨ 92 ≤ a) → k.1 a = h.1 a
theorem bs_rf (h : am_H) : bs_fr h h := fun _ _ => rfl
theorem bs_tr {a b c : am_H} (h1 : bs_fr a b) (h2 : bs_fr b c) : bs_fr a c := fun z hz => (h2 z hz).trans (h1 z hz)
theorem bs_cs {h k : am_H} (f : cs_fr h k) : bs_fr h k := fun a ha => (f a (by omega)).1
theorem bs_rs {h k : am_H} (f : rs_fr h k) : bs_fr h k := fun a ha => (f a (by omega)).1
theorem Rl_bs {h k : am_H} (f : bs_fr h k) (r : Rl h) : Rl k := Rl_of (fun a ha => f a (by omega)) (fun a ha hb => f a (by omega)) (fun a ha hb => f a (by omega)) r
theorem fv_rs {h k : am_H} (f : fv_fr h k) : rs_fr h k := fun a ha => ⟨f.2.1 a (by omega) (by omega) (by omega) (by omega), by rw [f.1]⟩
/-- corners are below n -/
def vt_in (n : Nat) (v : ts_R) : Prop := v.2.2.2.1 < n ∧ v.2.2.2.2.1 < n ∧ v.2.2.2.2.2 < n
theorem ts_tri_in {X Y : Nat → Int32} {n i j k : Nat} (hi : i < n) (hj : j < n) (hk : k < n) {v : ts_R} (e : ts_tri X Y i j k = some v) : vt_in n v := by
  have hc := ts_sort_c (P := fun z => z < n) (X := X) (Y := Y) ⟨hi, hj, hk⟩
  by_cases hf : ts_flat X Y (ts_sort X Y i j k)
  · rw [ts_tri_n hf] at e
    exact absurd e (by simp)
  · rw [ts_tri_s hf] at e
    cases e
    unfold vt_in ts_val
    generalize ts_sort X Y i j k = t at hc ⊢
    exact ⟨hc.1, hc.2.1, hc.2.2⟩
def vz (n m : Nat) (T : Nat → Int32) : Prop := ∀ s k, s < 8 → k < 8 → ¬ (s < n ∧ k < m) → T (8 * s + k) = 0
theorem vz_inc {n m : Nat} {T : Nat → Int32} {a b : Nat} (hm : m ≤ 8) (ha : a < n) (hb : b < m) (h : vz n m T) : vz n m (vinc T (8 * a + b)) := by
  intro s k hs hk hn
  unfold vinc
  rw [if_neg (by omega)]
  exact h s k hs hk hn
theorem vz_step {n m : Nat} (hm : m ≤ 8) {sl : Int32} {u v : ts_R} (hu : vt_in n u) (hv : vt_in m v) {z : vt_V} (h : vz n m z.1) : vz n m (vstep sl u z v).1 := by
  by_cases c : v_al sl u v
  · rw [vstep_p c]
    exact vz_inc hm hu.2.2 hv.2.2 (vz_inc hm hu.2.1 hv.2.1 (vz_inc hm hu.1 hv.1 h))
  · rw [vstep_n c]
    exact h
theorem vz_row {n m : Nat} (hm : m ≤ 8) {sl : Int32} {u : ts_R} (hu : vt_in n u) (B : List ts_R) (hB : ∀ v, v ∈ B → vt_in m v) {z : vt_V} (h : vz n m z.1) : vz n m (vrow sl B z u).1 := by
  unfold vrow
  induction B generalizing z with
  | nil => exact h
  | cons v B ih => exact ih (fun w hw => hB w (List.mem_cons_of_mem _ hw)) (vz_step hm hu (hB v List.mem_cons_self) h)
theorem vz_fold {n m : Nat} (hm : m ≤ 8) {sl : Int32} (B : List ts_R) (hB : ∀ v, v ∈ B → vt_in m v) (A : List ts_R) (hA : ∀ v, v ∈ A → vt_in n v) {z : vt_V} (h : vz n m z.1) : vz n m (A.foldl (vrow sl B) z).1 := by
  induction A generalizing z with
  | nil => exact h
  | cons u A ih => exact ih (fun w hw => hA w (List.mem_cons_of_mem _ hw)) (vz_row hm (hA u List.mem_cons_self) B hB h)
theorem vz_all {n m : Nat} (hm : m ≤ 8) {sl : Int32} (A B : List ts_R) (hA : ∀ v, v ∈ A → vt_in n v) (hB : ∀ v, v ∈ B → vt_in m v) : vz n m (vall sl A B).1 := vz_fold hm B hB A hA (fun _ _ _ _ _ => rfl)
/-- what the groups are: how many stars, how many spots of the plate -/
def rl_n (h : am_H) (g n : Nat) : Prop := n ≤ 8 ∧ h.1 (4 * g + 1) 3 = nI n ∧ h.1 78 g = nI n
theorem rl_tb {h k : am_H} (f : bs_fr h k) {g : Nat} (hg : g < 3) {n : Nat} (e : h.1 78 g = nI n) (a4 : ∀ j, j < 8 → h.1 79 (8 * g + j) = h.1 (4 * g + 2) j ∧ h.1 80 (8 * g + j) = h.1 (4 * g + 3) j ∧ h.1 81 (8 * g + j) = h.1 (4 * g + 4) j ∧ rl_rng g (h.1 (4 * g + 2) j) (h.1 (4 * g + 3) j) (h.1 (4 * g + 4) j)) : tb k g n (tf h (4 * g + 1)) := by
  have hb := rl_b (fun j hj => (a4 j hj).2.2.2)
  have hX : ∀ a, a < 8 → (fun z => k.1 79 (8 * g + z)) a = h.1 (4 * g + 2) a := fun a ha => by
    dsimp only
    rw [f 79 (by omega)]
    exact (a4 a ha).1
  have hY : ∀ a, a < 8 → (fun z => k.1 80 (8 * g + z)) a = h.1 (4 * g + 3) a := fun a ha => by
    dsimp only
    rw [f 80 (by omega)]
    exact (a4 a ha).2.1
  exact ⟨by rw [f 78 (by omega)]; exact e, _, _, rfl, rfl, ts_b_cg hX hb.1, ts_b_cg hY hb.2, fun i j k hi hj hk => ts_tri_cg hX hY hi hj hk⟩
theorem rl_votes {h : am_H} (r : Rl h) {q : Nat} (hq : q < 2) : ∃ z n m, rl_n h 0 n ∧ rl_n h (1 + q) m ∧ vz n m z.1 ∧ (∀ k, bs_fr h k → ∃ h1, fX0_hold [.ref 35, .ref 1, .ref (4 * (1 + q) + 1), .int (h.1 31 0)] k = some (none, h1) ∧ bl_has h1 z ∧ hd_fr k h1) ∧ (∀ k, bs_fr h k → ∃ h2, fX9_findVotes [.ref 77, .int (nI q)] k = some (none, h2) ∧ vr_has h2 z ∧ fv_fr k h2) := by
  obtain ⟨n, hn, a1, a2, a3, a4⟩ := r.1 0 (by omega)
  obtain ⟨m, hm, b1, b2, b3, b4⟩ := r.1 (1 + q) (by omega)
  have sr := r.2.1
  have hs : 0 ≤ (h.1 31 0).toInt ∧ (h.1 31 0).toInt ≤ 50 := by
    have z := sr.2.1
    unfold rl_in at z
    have e1 : (50 : Int32).toInt = 50 := by decide
    have e0 : (0 : Int32).toInt = 0 := by decide
    simp only [Int32.lt_iff_toInt_lt, e0, e1] at z
    omega
  have bA := rl_b (fun j hj => (a4 j hj).2.2.2)
  have bB := rl_b (fun j hj => (b4 j hj).2.2.2)
  have tA : ∀ v, v ∈ ti (tf h (4 * 0 + 1)) n n → vt_ok v ∧ vt_in n v := ti_all _ n n (by omega) (fun i j k hi hj hk v e => ⟨ts_tri_ok bA.1 bA.2 (by omega) (by omega) (by omega) e, ts_tri_in hi hj hk e⟩)
  have tB : ∀ v, v ∈ ti (tf h (4 * (1 + q) + 1)) m m → vt_ok v ∧ vt_in m v := ti_all _ m m (by omega) (fun i j k hi hj hk v e => ⟨ts_tri_ok bB.1 bB.2 (by omega) (by omega) (by omega) e, ts_tri_in hi hj hk e⟩)
  refine ⟨vall (h.1 31 0) (ti (tf h (4 * 0 + 1)) n n) (ti (tf h (4 * (1 + q) + 1)) m m), n, m, ⟨hn, a1, a2⟩, ⟨hm, b1, b2⟩, vz_all hm _ _ (fun v hv => (tA v hv).2) (fun v hv => (tB v hv).2), fun k f => ?_, fun k f => ?_⟩
  · have e1 : tf k 1 = tf h (4 * 0 + 1) := by
      unfold tf
      rw [f (1 + 1) (by omega), f (1 + 2) (by omega)]
    have e2 : tf k (4 * (1 + q) + 1) = tf h (4 * (1 + q) + 1) := by
      unfold tf
      rw [f (4 * (1 + q) + 1 + 1) (by omega), f (4 * (1 + q) + 1 + 2) (by omega)]
    exact m_X0_hold 1 (4 * (1 + q) + 1) (dt_g (g := 0) (by omega)) (dt_g (by omega)) (by omega) (by omega) n m hn hm _ hs k (by rw [f 1 (by omega)]; exact a1) (by rw [f _ (by omega)]; exact b1) _ _ (by rw [e1]) (by rw [e2]) (fun v hv => (tA v hv).1) (fun v hv => (tB v hv).1)
  · exact m_X9_findVotes q hq n m hn hm _ _ (fun i j k u e => ts_turn e) (fun i j k u e => ts_turn e) k (rl_tb f (by omega) a2 a4) (rl_tb f (by omega) b2 b4) _ (by rw [f 82 (by omega)]; exact sr.1 0 (by omega)) _ _ rfl rfl (fun v hv => (tA v hv).1) (fun v hv => (tB v hv).1)
