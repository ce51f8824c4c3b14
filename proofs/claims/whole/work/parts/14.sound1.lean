theorem am_no30 : ∀ k, k < 99 → ¬ (am_kd k).1 = 30 := by decide +kernel
theorem am_kd_101 {k : Nat} (hk : 101 ≤ k) : am_kd k = (99, 0) := by
  have : am_kds.length ≤ k := hk
  simp [am_kd, List.getD_eq_getElem?_getD, List.getElem?_eq_none this]
section AMS1
variable {p : Program} {l : Launch} {e : Env} {R : Room} {s : State} {m : MethodId} {args : Array Value} {below : List Frame} {meth : Method} {c : Code} {cells slots : Nat} {Q : State → Prop} {cc : ByteArray} {nL : Nat} {own : String} {D : va_G} {ad : Nat → Nat} {cA : Nat → ClassId} {A : Nat → Prop} {G : am_G}
set_option maxHeartbeats 8000000 in
set_option maxRecDepth 100000 in
/-- one step -/
theorem am_sound1 (hx : p.tables.exec = Jvm.exec) (hb : c.code = cc) (hown : s.vm.findClass own = some m.cls) (hts : ∀ w ∈ am_big, w.before args s = true) (hlay : am_lays) (hK : va_K D vwCl (am_tys cA) s) (hD : ∀ h, va_D A (am_ws ad cA h)) (hro : am_ro ad A s s.heap)
    (hF : am_okF own G.1) (hC : am_okC own G.2.1) (hSt : am_okS own G.2.2.1) (hM : ∀ idx z, G.2.2.2 idx = some z → am_cr p l e R s m args below meth c cells slots Q cc nL D ad cA A idx z)
    {pc : Nat} {L : am_L} {st : List Value} {h : am_H} {q : am_C} (hs : am_step G cc (pc, L, st, h) = some (.inr q)) {H : Heap} {locs : List Loc} {ls : Array Slot} (hP : va_P D vwCl (am_ws ad cA h) H) (hS : va_S A s.heap H locs) (hl : am_lr ad ls nL L)
    (kk : ∀ (H1 : Heap) (locs1 : List Loc) (ls1 : Array Slot), va_P D vwCl (am_ws ad cA q.2.2.2) H1 → va_S A s.heap H1 locs1 → am_lr ad ls1 nL q.2.1 → W p l e R s m args below meth c H1 locs1 cells slots Q (F0 m q.1 ls1 (q.2.2.1.map (am_cv ad)))) :
    W p l e R s m args below meth c H locs cells slots Q (F0 m pc ls (st.map (am_cv ad))) := by
  unfold am_step at hs
  split at hs
  case h_2 => cases hs
  rename_i qi hdg
  obtain ⟨i, n⟩ := qi
  obtain ⟨hlen, hs0⟩ := am_if_inv hs
  clear hs
  dsimp only at hs0 hdg hlen
  cases i with
  | iconst v => obtain rfl := am_nx_inv hs0; obtain rfl : n = 1 := by simp [am_len] at hlen; omega
                exact lv_iconst hx hb hdg rfl (kk H locs ls hP hS hl)
  | bipush v => obtain rfl := am_nx_inv hs0; obtain rfl : n = 2 := by simp [am_len] at hlen; omega
                exact lv_bipush hx hb hdg rfl (kk H locs ls hP hS hl)
  | sipush v => obtain rfl := am_nx_inv hs0; obtain rfl : n = 3 := by simp [am_len] at hlen; omega
                exact lv_sipush hx hb hdg rfl (kk H locs ls hP hS hl)
  | lconst v => obtain rfl := am_nx_inv hs0; obtain rfl : n = 1 := by simp [am_len] at hlen; omega
                exact lv_lconst hx hb hdg rfl (kk H locs ls hP hS hl)
  | iload j => obtain ⟨x, e1, hs1⟩ := am_vi_inv hs0; obtain rfl := am_nx_inv hs1; obtain rfl : n = 2 := by simp [am_len] at hlen; omega
               exact lv_iload hx hb hdg (hl.2.2.2 _ _ e1) (kk H locs ls hP hS hl)
  | iload_n j => obtain ⟨x, e1, hs1⟩ := am_vi_inv hs0; obtain rfl := am_nx_inv hs1; obtain rfl : n = 1 := by simp [am_len] at hlen; omega
                 exact lv_iload_n hx hb hdg rfl (hl.2.2.2 _ _ e1) (kk H locs ls hP hS hl)
  | lload j => obtain ⟨x, e1, hs1⟩ := am_vl_inv hs0; obtain rfl := am_nx_inv hs1; obtain rfl : n = 2 := by simp [am_len] at hlen; omega
               exact lv_lload hx hb hdg (hl.2.2.2 _ _ e1) (kk H locs ls hP hS hl)
  | lload_n j => obtain ⟨x, e1, hs1⟩ := am_vl_inv hs0; obtain rfl := am_nx_inv hs1; obtain rfl : n = 1 := by simp [am_len] at hlen; omega
                 exact lv_lload_n hx hb hdg rfl (hl.2.2.2 _ _ e1) (kk H locs ls hP hS hl)
  | aload j => obtain ⟨x, e1, hs1⟩ := am_vr_inv hs0; obtain rfl := am_nx_inv hs1; obtain rfl : n = 2 := by simp [am_len] at hlen; omega
               exact lv_aload hx hb hdg (hl.2.2.2 _ _ e1) (kk H locs ls hP hS hl)
  | aload_n j => obtain ⟨x, e1, hs1⟩ := am_vr_inv hs0; obtain rfl := am_nx_inv hs1; obtain rfl : n = 1 := by simp [am_len] at hlen; omega
                 exact lv_aload_n hx hb hdg rfl (hl.2.2.2 _ _ e1) (kk H locs ls hP hS hl)
  | istore j => obtain ⟨x, r, rfl, hs1⟩ := am_1i_inv hs0; obtain ⟨hj, hs2⟩ := am_if_inv hs1; obtain rfl := am_nx_inv hs2; obtain rfl : n = 2 := by simp [am_len] at hlen; omega
                exact lv_istore hx hb hdg (am_lr_has hl) (by rw [← hl.1]; exact hj) rfl (fun ls1 h1 => kk H locs ls1 hP hS (am_lr_st1 hl.1 h1))
  | istore_n j => obtain ⟨x, r, rfl, hs1⟩ := am_1i_inv hs0; obtain ⟨hj, hs2⟩ := am_if_inv hs1; obtain rfl := am_nx_inv hs2; obtain rfl : n = 1 := by simp [am_len] at hlen; omega
                  exact lv_istore_n hx hb hdg rfl (am_lr_has hl) (by rw [← hl.1]; exact hj) rfl (fun ls1 h1 => kk H locs ls1 hP hS (am_lr_st1 hl.1 h1))
  | lstore j => obtain ⟨x, r, rfl, hs1⟩ := am_1l_inv hs0; obtain ⟨hj, hs2⟩ := am_if_inv hs1; obtain rfl := am_nx_inv hs2; obtain rfl : n = 2 := by simp [am_len] at hlen; omega
                exact lv_lstore hx hb hdg (am_lr_has hl) (by rw [← hl.1]; exact hj) rfl (fun ls1 h1 => kk H locs ls1 hP hS (am_lr_st2 hl.1 h1))
  | lstore_n j => obtain ⟨x, r, rfl, hs1⟩ := am_1l_inv hs0; obtain ⟨hj, hs2⟩ := am_if_inv hs1; obtain rfl := am_nx_inv hs2; obtain rfl : n = 1 := by simp [am_len] at hlen; omega
                  exact lv_lstore_n hx hb hdg rfl (am_lr_has hl) (by rw [← hl.1]; exact hj) rfl (fun ls1 h1 => kk H locs ls1 hP hS (am_lr_st2 hl.1 h1))
  | astore j => obtain ⟨x, r, rfl, hs1⟩ := am_1r_inv hs0; obtain ⟨hj, hs2⟩ := am_if_inv hs1; obtain rfl := am_nx_inv hs2; obtain rfl : n = 2 := by simp [am_len] at hlen; omega
                exact lv_astore hx hb hdg (am_lr_has hl) (by rw [← hl.1]; exact hj) rfl (fun ls1 h1 => kk H locs ls1 hP hS (am_lr_st1 (v := .ref x) hl.1 h1))
  | astore_n j => obtain ⟨x, r, rfl, hs1⟩ := am_1r_inv hs0; obtain ⟨hj, hs2⟩ := am_if_inv hs1; obtain rfl := am_nx_inv hs2; obtain rfl : n = 1 := by simp [am_len] at hlen; omega
                  exact lv_astore_n hx hb hdg rfl (am_lr_has hl) (by rw [← hl.1]; exact hj) rfl (fun ls1 h1 => kk H locs ls1 hP hS (am_lr_st1 (v := .ref x) hl.1 h1))
  | iinc j v => obtain ⟨x, e1, hs1⟩ := am_vi_inv hs0; obtain ⟨hj, hs2⟩ := am_if_inv hs1; obtain rfl := am_nx_inv hs2; obtain rfl : n = 3 := by simp [am_len] at hlen; omega
                obtain ⟨k9, hk9⟩ := List.getElem?_of_mem (am_as_mem (ad := ad) e1)
                exact lv_iinc hx hb hdg (am_lr_has hl) hk9 rfl (by rw [← hl.1]; exact hj) rfl (fun ls1 h1 => kk H locs ls1 hP hS (am_lr_st1 (v := .int (x + Int32.ofInt v)) hl.1 h1))
  | iadd => obtain ⟨x, y, r, rfl, hs1⟩ := am_2i_inv hs0; obtain rfl := am_nx_inv hs1; obtain rfl : n = 1 := by simp [am_len] at hlen; omega
            exact lv_iadd hx hb hdg (kk H locs ls hP hS hl)
  | isub => obtain ⟨x, y, r, rfl, hs1⟩ := am_2i_inv hs0; obtain rfl := am_nx_inv hs1; obtain rfl : n = 1 := by simp [am_len] at hlen; omega
            exact lv_isub hx hb hdg (kk H locs ls hP hS hl)
  | imul => obtain ⟨x, y, r, rfl, hs1⟩ := am_2i_inv hs0; obtain rfl := am_nx_inv hs1; obtain rfl : n = 1 := by simp [am_len] at hlen; omega
            exact lv_imul hx hb hdg (kk H locs ls hP hS hl)
  | iand => obtain ⟨x, y, r, rfl, hs1⟩ := am_2i_inv hs0; obtain rfl := am_nx_inv hs1; obtain rfl : n = 1 := by simp [am_len] at hlen; omega
            exact lv_iand hx hb hdg (kk H locs ls hP hS hl)
  | ior => obtain ⟨x, y, r, rfl, hs1⟩ := am_2i_inv hs0; obtain rfl := am_nx_inv hs1; obtain rfl : n = 1 := by simp [am_len] at hlen; omega
           exact lv_ior hx hb hdg (kk H locs ls hP hS hl)
  | idiv => obtain ⟨x, y, r, rfl, hs1⟩ := am_2i_inv hs0; obtain ⟨h0, hs2⟩ := am_fi_inv hs1; obtain rfl := am_nx_inv hs2; obtain rfl : n = 1 := by simp [am_len] at hlen; omega
            exact lv_idiv hx hb hdg h0 (kk H locs ls hP hS hl)
  | irem => obtain ⟨x, y, r, rfl, hs1⟩ := am_2i_inv hs0; obtain ⟨h0, hs2⟩ := am_fi_inv hs1; obtain rfl := am_nx_inv hs2; obtain rfl : n = 1 := by simp [am_len] at hlen; omega
            exact lv_irem hx hb hdg h0 (kk H locs ls hP hS hl)
  | ineg => obtain ⟨x, r, rfl, hs1⟩ := am_1i_inv hs0; obtain rfl := am_nx_inv hs1; obtain rfl : n = 1 := by simp [am_len] at hlen; omega
            exact lv_ineg hx hb hdg (kk H locs ls hP hS hl)
  | ishl => obtain ⟨x, y, r, rfl, hs1⟩ := am_2i_inv hs0; obtain rfl := am_nx_inv hs1; obtain rfl : n = 1 := by simp [am_len] at hlen; omega
            exact lv_ishl hx hb hdg (kk H locs ls hP hS hl)
  | ishr => obtain ⟨x, y, r, rfl, hs1⟩ := am_2i_inv hs0; obtain rfl := am_nx_inv hs1; obtain rfl : n = 1 := by simp [am_len] at hlen; omega
            exact lv_ishr hx hb hdg (kk H locs ls hP hS hl)
  | iushr => obtain ⟨x, y, r, rfl, hs1⟩ := am_2i_inv hs0; obtain rfl := am_nx_inv hs1; obtain rfl : n = 1 := by simp [am_len] at hlen; omega
             exact lv_iushr hx hb hdg rfl (kk H locs ls hP hS hl)
  | ladd => obtain ⟨x, y, r, rfl, hs1⟩ := am_2l_inv hs0; obtain rfl := am_nx_inv hs1; obtain rfl : n = 1 := by simp [am_len] at hlen; omega
            exact lv_ladd hx hb hdg (kk H locs ls hP hS hl)
  | lsub => obtain ⟨x, y, r, rfl, hs1⟩ := am_2l_inv hs0; obtain rfl := am_nx_inv hs1; obtain rfl : n = 1 := by simp [am_len] at hlen; omega
            exact lv_lsub hx hb hdg (kk H locs ls hP hS hl)
  | lmul => obtain ⟨x, y, r, rfl, hs1⟩ := am_2l_inv hs0; obtain rfl := am_nx_inv hs1; obtain rfl : n = 1 := by simp [am_len] at hlen; omega
            exact lv_lmul hx hb hdg (kk H locs ls hP hS hl)
  | land => obtain ⟨x, y, r, rfl, hs1⟩ := am_2l_inv hs0; obtain rfl := am_nx_inv hs1; obtain rfl : n = 1 := by simp [am_len] at hlen; omega
            exact lv_land hx hb hdg (kk H locs ls hP hS hl)
  | lxor => obtain ⟨x, y, r, rfl, hs1⟩ := am_2l_inv hs0; obtain rfl := am_nx_inv hs1; obtain rfl : n = 1 := by simp [am_len] at hlen; omega
            exact lv_lxor hx hb hdg (kk H locs ls hP hS hl)
  | ldiv => obtain ⟨x, y, r, rfl, hs1⟩ := am_2l_inv hs0; obtain ⟨h0, hs2⟩ := am_fi_inv hs1; obtain rfl := am_nx_inv hs2; obtain rfl : n = 1 := by simp [am_len] at hlen; omega
            exact lv_ldiv hx hb hdg h0 (kk H locs ls hP hS hl)
  | lrem => obtain ⟨x, y, r, rfl, hs1⟩ := am_2l_inv hs0; obtain ⟨h0, hs2⟩ := am_fi_inv hs1; obtain rfl := am_nx_inv hs2; obtain rfl : n = 1 := by simp [am_len] at hlen; omega
            exact lv_lrem hx hb hdg h0 (kk H locs ls hP hS hl)
  | lneg => obtain ⟨x, r, rfl, hs1⟩ := am_1l_inv hs0; obtain rfl := am_nx_inv hs1; obtain rfl : n = 1 := by simp [am_len] at hlen; omega
            exact lv_lneg hx hb hdg (kk H locs ls hP hS hl)
  | lshl => obtain ⟨x, y, r, rfl, hs1⟩ := am_li_inv hs0; obtain rfl := am_nx_inv hs1; obtain rfl : n = 1 := by simp [am_len] at hlen; omega
            exact lv_lshl hx hb hdg rfl (kk H locs ls hP hS hl)
  | lshr => obtain ⟨x, y, r, rfl, hs1⟩ := am_li_inv hs0; obtain rfl := am_nx_inv hs1; obtain rfl : n = 1 := by simp [am_len] at hlen; omega
            exact lv_lshr hx hb hdg rfl (kk H locs ls hP hS hl)
  | i2l => obtain ⟨x, r, rfl, hs1⟩ := am_1i_inv hs0; obtain rfl := am_nx_inv hs1; obtain rfl : n = 1 := by simp [am_len] at hlen; omega
           exact lv_i2l hx hb hdg rfl (kk H locs ls hP hS hl)
  | l2i => obtain ⟨x, r, rfl, hs1⟩ := am_1l_inv hs0; obtain rfl := am_nx_inv hs1; obtain rfl : n = 1 := by simp [am_len] at hlen; omega
           exact lv_l2i hx hb hdg rfl (kk H locs ls hP hS hl)
  | lcmp => obtain ⟨x, y, r, rfl, hs1⟩ := am_2l_inv hs0; obtain rfl := am_nx_inv hs1; obtain rfl : n = 1 := by simp [am_len] at hlen; omega
            exact W.lcmp hx hb hdg (kk H locs ls hP hS hl)
  | dup =>
    obtain rfl : n = 1 := by simp [am_len] at hlen; omega
    rcases st with _ | ⟨v, r⟩
    · cases hs0
    · cases v with
      | int x =>
        obtain rfl := am_nx_inv hs0
        exact lv_dup hx hb hdg rfl (kk H locs ls hP hS hl)
      | ref x =>
        obtain rfl := am_nx_inv hs0
        exact lv_dup hx hb hdg rfl (kk H locs ls hP hS hl)
      | _ => cases hs0
  | dup2 => obtain ⟨a, i, r, rfl, hs1⟩ := am_ri_inv hs0; obtain rfl := am_nx_inv hs1; obtain rfl : n = 1 := by simp [am_len] at hlen; omega
            exact lv_dup2_11 hx hb hdg rfl rfl (kk H locs ls hP hS hl)
  | pop => obtain ⟨x, r, rfl, hs1⟩ := am_1i_inv hs0; obtain rfl := am_nx_inv hs1; obtain rfl : n = 1 := by simp [am_len] at hlen; omega
           exact lv_pop hx hb hdg rfl (kk H locs ls hP hS hl)
  | ifCond cd off =>
    obtain ⟨h0, hs1⟩ := am_if_inv hs0
    obtain ⟨x, r, rfl, hs2⟩ := am_1i_inv hs1
    obtain rfl : n = 3 := by simp [am_len] at hlen; omega
    by_cases hc : am_cd cd x 0 = true
    · rw [if_pos hc] at hs2
      obtain ⟨tgt, ht, rfl⟩ := am_jp_inv hs2
      exact am_cond0 cd hx hb hdg ht (fun _ => kk H locs ls hP hS hl) (fun z => absurd hc z)
    · rw [if_neg hc] at hs2
      obtain rfl := am_nx_inv hs2
      exact am_cond0 cd hx hb hdg (Int.toNat_of_nonneg h0).symm (fun z => absurd z hc) (fun _ => kk H locs ls hP hS hl)
  | if_icmp cd off =>
    obtain ⟨h0, hs1⟩ := am_if_inv hs0
    obtain ⟨x, y, r, rfl, hs2⟩ := am_2i_inv hs1
    obtain rfl : n = 3 := by simp [am_len] at hlen; omega
    by_cases hc : am_cd cd x y = true
    · rw [if_pos hc] at hs2
      obtain ⟨tgt, ht, rfl⟩ := am_jp_inv hs2
      exact am_cond cd hx hb hdg ht (fun _ => kk H locs ls hP hS hl) (fun z => absurd hc z)
    · rw [if_neg hc] at hs2
      obtain rfl := am_nx_inv hs2
      exact am_cond cd hx hb hdg (Int.toNat_of_nonneg h0).symm (fun z => absurd z hc) (fun _ => kk H locs ls hP hS hl)
  | goto off =>
    obtain rfl : n = 3 := by simp [am_len] at hlen; omega
    obtain ⟨tgt, ht, rfl⟩ := am_jp_inv hs0
    exact lv_goto hx hb hdg ht (kk H locs ls hP hS hl)
  | tableswitch d lo hi offs =>
    obtain ⟨x, r, rfl, hs1⟩ := am_1i_inv hs0
    by_cases hc : x.toInt < lo ∨ hi < x.toInt
    · rw [if_pos hc] at hs1
      obtain ⟨tgt, ht, rfl⟩ := am_jp_inv hs1
      exact lv_tableOut hx hb hdg hc ht (kk H locs ls hP hS hl)
    · rw [if_neg hc] at hs1
      obtain ⟨o, ho, hs2⟩ := am_ob_inv hs1
      obtain ⟨tgt, ht, rfl⟩ := am_jp_inv hs2
      exact lv_tableIn hx hb hdg (fun z => hc (Or.inl z)) (fun z => hc (Or.inr z)) ho ht (kk H locs ls hP hS hl)
  | lookupswitch d ps =>
    obtain ⟨x, r, rfl, hs1⟩ := am_1i_inv hs0
    obtain ⟨ho, hs2⟩ := am_if_inv hs1
    obtain ⟨tgt, ht, rfl⟩ := am_jp_inv hs2
    exact lv_lookup hx hb hdg ho rfl ht (kk H locs ls hP hS hl)
  | getfield idx =>
    obtain rfl : n = 3 := by simp [am_len] at hlen; omega
    obtain ⟨k, r, rfl, hs1⟩ := am_1r_inv hs0
    obtain ⟨z, hz, hs2⟩ := am_ob_inv hs1
    obtain ⟨hk, hs3⟩ := am_if_inv hs2
    obtain rfl := am_nx_inv hs3
    obtain ⟨hz10, q9, hq, hjN, hlink⟩ := hF idx z hz
    obtain ⟨C, T, N⟩ := q9
    have hk9 : k < 99 := am_lt hk (by omega) (by omega)
    have hN : (am_kd k).2 = N := by
      have := am_nslots k hk9 (by omega)
      rw [hk, hq] at this
      exact (Option.some.inj this).symm
    have hat := am_ws_at (ad := ad) (cA := cA) (h := h) hk9
    rw [am_ce_o hk (by omega), hN] at hat
    exact va_get (D := D) (cl := vwCl) (ci := z.1) (C := C) (T := T) (N := N) (own := own) (ref := (T z.2).1) (tys := am_tys cA) (ws := am_ws ad cA h) (Ts := am_big) hx hb hts (hlay z.1 _ hq).1 hown hK hP k hat hq z.2 hjN (hts _ hlink) (fun _ h9 => h9) (v := am_cv ad (am_fr z.1 z.2 k h)) (by simp; exact ⟨z.2, by simp [hjN], rfl⟩) hdg (kk H locs ls hP hS hl)
  | putfield idx =>
    obtain rfl : n = 3 := by simp [am_len] at hlen; omega
    rcases st with _ | ⟨v, _ | ⟨w, r⟩⟩
    · cases hs0
    · cases hs0
    · cases w with
      | ref k =>
        obtain ⟨z, hz, hs1⟩ := am_ob_inv hs0
        obtain ⟨hk, hs2⟩ := am_if_inv hs1
        obtain ⟨h2, hw, hs3⟩ := am_ob_inv hs2
        obtain rfl := am_nx_inv hs3
        exact am_putf hx hb hown hts hlay hK hD hF hz hk hw hP hS hdg (fun H1 locs1 hP1 hS1 => kk H1 locs1 ls hP1 hS1 hl)
      | _ => cases hs0
  | getstatic idx =>
    obtain rfl : n = 3 := by simp [am_len] at hlen; omega
    obtain ⟨k, hz, hs1⟩ := am_ob_inv hs0
    obtain rfl := am_nx_inv hs1
    rcases hSt idx k hz with ⟨rfl, hw⟩ | ⟨rfl, hw⟩
    · exact va_gets hx hb hro.2.2.1 hS hown (hts _ hw) (fun _ h9 => h9) hdg (kk H locs ls hP hS hl)
    · exact va_gets hx hb hro.2.2.2 hS hown (hts _ hw) (fun _ h9 => h9) hdg (kk H locs ls hP hS hl)
  | ldc idx => obtain ⟨x, e1, hs1⟩ := am_vi_inv hs0; obtain rfl := am_nx_inv hs1; obtain rfl : n = 2 := by simp [am_len] at hlen; omega
               exact lv_ldc hx hb hown (hts _ ((hC idx _ e1).1 x rfl)) hdg (kk H locs ls hP hS hl)
  | ldc_w idx => obtain ⟨x, e1, hs1⟩ := am_vi_inv hs0; obtain rfl := am_nx_inv hs1; obtain rfl : n = 3 := by simp [am_len] at hlen; omega
                 exact lv_ldcw hx hb hown (hts _ ((hC idx _ e1).1 x rfl)) hdg (kk H locs ls hP hS hl)
  | ldc2_w idx => obtain ⟨x, e1, hs1⟩ := am_vl_inv hs0; obtain rfl := am_nx_inv hs1; obtain rfl : n = 3 := by simp [am_len] at hlen; omega
                  exact lv_ldc2 hx hb hown (hts _ ((hC idx _ e1).2 x rfl)) hdg (kk H locs ls hP hS hl)
  | iaload =>
    obtain rfl : n = 1 := by simp [am_len] at hlen; omega
    obtain ⟨k, i, r, rfl, hs1⟩ := am_ri_inv hs0
    by_cases t20 : (am_kd k).1 = 20
    · rw [if_pos t20] at hs1
      obtain ⟨hin, hs2⟩ := am_ix_inv hs1
      obtain rfl := am_nx_inv hs2
      have hk9 : k < 99 := am_lt t20 (by omega) (by omega)
      have hat := am_ws_at (ad := ad) (cA := cA) (h := h) hk9
      rw [am_ce_i (Or.inl t20)] at hat
      exact va_iald hx hb hK hP k k hat (by rw [am_tys_at hk9]; simp [am_ty, t20]) hin hdg (kk H locs ls hP hS hl)
    · rw [if_neg t20] at hs1
      obtain ⟨t30, hs3⟩ := am_if_inv hs1
      obtain ⟨hin, hs4⟩ := am_ix_inv hs3
      obtain rfl := am_nx_inv hs4
      have hk : k = 99 ∨ k = 100 := by
        rcases Nat.lt_or_ge k 99 with q9 | q9
        · exact absurd t30 (am_no30 k q9)
        · rcases Nat.lt_or_ge k 101 with q8 | q8
          · rcases Nat.lt_or_ge k 100 with q7 | q7
            · exact Or.inl (Nat.le_antisymm (Nat.le_of_lt_succ q7) q9)
            · exact Or.inr (Nat.le_antisymm (Nat.le_of_lt_succ q8) q7)
          · exact absurd t30 (by rw [am_kd_101 q8]; decide)
      rcases hk with rfl | rfl
      · exact va_ti hx hb hro.1 hS hin rfl hdg (kk H locs ls hP hS hl)
      · exact va_ti hx hb hro.2.1 hS hin rfl hdg (kk H locs ls hP hS hl)
  | laload =>
    obtain rfl : n = 1 := by simp [am_len] at hlen; omega
    obtain ⟨k, i, r, rfl, hs1⟩ := am_ri_inv hs0
    obtain ⟨t, hs2⟩ := am_if_inv hs1
    obtain ⟨hin, hs3⟩ := am_ix_inv hs2
    obtain rfl := am_nx_inv hs3
    have hk9 : k < 99 := am_lt t (by omega) (by omega)
    have hat := am_ws_at (ad := ad) (cA := cA) (h := h) hk9
    rw [am_ce_l t] at hat
    exact va_lald hx hb hK hP k k hat (by rw [am_tys_at hk9]; simp [am_ty, t]) hin hdg (kk H locs ls hP hS hl)
  | baload =>
    obtain rfl : n = 1 := by simp [am_len] at hlen; omega
    obtain ⟨k, i, r, rfl, hs1⟩ := am_ri_inv hs0
    obtain ⟨t, hs2⟩ := am_if_inv hs1
    obtain ⟨hin, hs3⟩ := am_ix_inv hs2
    obtain rfl := am_nx_inv hs3
    have hk9 : k < 99 := am_lt t (by omega) (by omega)
    have hat := am_ws_at (ad := ad) (cA := cA) (h := h) hk9
    rw [am_ce_i (Or.inr t)] at hat
    exact va_zald hx hb hK hP k k hat (by rw [am_tys_at hk9]; simp [am_ty, t]) hin hdg (kk H locs ls hP hS hl)
  | aaload =>
    obtain rfl : n = 1 := by simp [am_len] at hlen; omega
    obtain ⟨k, i, r, rfl, hs1⟩ := am_ri_inv hs0
    obtain ⟨t, hs2⟩ := am_if_inv hs1
    obtain ⟨hin, hs3⟩ := am_ix_inv hs2
    obtain rfl := am_nx_inv hs3
    have hk9 : k < 99 := by rcases t with t | t | t <;> exact am_lt t (by omega) (by omega)
    have hat := am_ws_at (ad := ad) (cA := cA) (h := h) hk9
    rw [am_ce_q t] at hat
    rcases t with t | t | t
    · exact va_aldq hx hb hK hP k k (C := "StarPlates$Dots") hat (by rw [am_tys_at hk9]; simp [am_ty, t]) hin hdg (kk H locs ls hP hS hl)
    · exact va_aldq hx hb hK hP k k (C := "StarPlates$Tray") hat (by rw [am_tys_at hk9]; simp [am_ty, t]) hin hdg (kk H locs ls hP hS hl)
    · exact va_aldq hx hb hK hP k k (C := "StarPlates$Pairing") hat (by rw [am_tys_at hk9]; simp [am_ty, t]) hin hdg (kk H locs ls hP hS hl)
  | iastore =>
    obtain rfl : n = 1 := by simp [am_len] at hlen; omega
    obtain ⟨k, i, x, r, rfl, hs1⟩ := am_rii_inv hs0
    obtain ⟨t, hs2⟩ := am_if_inv hs1
    obtain ⟨hin, hs3⟩ := am_ix_inv hs2
    obtain rfl := am_nx_inv hs3
    have hk9 : k < 99 := am_lt t (by omega) (by omega)
    have hat := am_ws_at (ad := ad) (cA := cA) (h := h) hk9
    rw [am_ce_i (Or.inl t)] at hat
    refine va_iast hx hb hK hP (hD h) hS k k hat (by rw [am_tys_at hk9]; simp [am_ty, t]) hin hdg (fun H1 locs1 hP1 _ hS1 => kk H1 locs1 ls ?_ hS1 hl)
    rw [am_ws_set hk9 (h2 := am_ui h k i.toNatClampNeg x) (by rw [am_ce_i (Or.inl t)]; simp [am_ui]; rfl) am_ui_o] at hP1
    exact hP1
  | bastore =>
    obtain rfl : n = 1 := by simp [am_len] at hlen; omega
    obtain ⟨k, i, x, r, rfl, hs1⟩ := am_rii_inv hs0
    obtain ⟨t, hs2⟩ := am_if_inv hs1
    obtain ⟨hin, hs3⟩ := am_ix_inv hs2
    obtain ⟨h01, hs4⟩ := am_if_inv hs3
    obtain rfl := am_nx_inv hs4
    have hk9 : k < 99 := am_lt t (by omega) (by omega)
    have hat := am_ws_at (ad := ad) (cA := cA) (h := h) hk9
    rw [am_ce_i (Or.inr t)] at hat
    have hnar : vp_nar .boolean x = x := by rcases h01 with rfl | rfl <;> rfl
    refine va_zast hx hb hK hP (hD h) hS k k hat (by rw [am_tys_at hk9]; simp [am_ty, t]) hin hdg (fun H1 locs1 hP1 _ hS1 => kk H1 locs1 ls ?_ hS1 hl)
    rw [hnar, am_ws_set hk9 (h2 := am_ui h k i.toNatClampNeg x) (by rw [am_ce_i (Or.inr t)]; simp [am_ui]; rfl) am_ui_o] at hP1
    exact hP1
  | lastore =>
    obtain rfl : n = 1 := by simp [am_len] at hlen; omega
    obtain ⟨k, i, x, r, rfl, hs1⟩ := am_ril_inv hs0
    obtain ⟨t, hs2⟩ := am_if_inv hs1
    obtain ⟨hin, hs3⟩ := am_ix_inv hs2
    obtain rfl := am_nx_inv hs3
    have hk9 : k < 99 := am_lt t (by omega) (by omega)
    have hat := am_ws_at (ad := ad) (cA := cA) (h := h) hk9
    rw [am_ce_l t] at hat
    refine va_last hx hb hK hP (hD h) hS k k hat (by rw [am_tys_at hk9]; simp [am_ty, t]) hin hdg (fun H1 locs1 hP1 _ hS1 => kk H1 locs1 ls ?_ hS1 hl)
    rw [am_ws_set hk9 (h2 := am_ul h k i.toNatClampNeg x) (by rw [am_ce_l t]; simp [am_ul]; rfl) am_ul_o] at hP1
    exact hP1
  | arraylength =>
    obtain rfl : n = 1 := by simp [am_len] at hlen; omega
    obtain ⟨k, r, rfl, hs1⟩ := am_1r_inv hs0
    obtain ⟨t, hs2⟩ := am_if_inv hs1
    obtain rfl := am_nx_inv hs2
    have hk9 : k < 99 := am_lt t (by omega) (by omega)
    have hat := am_ws_at (ad := ad) (cA := cA) (h := h) hk9
    rw [am_ce_i (Or.inl t)] at hat
    exact va_alen hx hb hK hP k k hat (am_tys_at hk9) rfl hdg (kk H locs ls hP hS hl)
  | invokevirtual idx =>
    obtain rfl : n = 3 := by simp [am_len] at hlen; omega
    obtain ⟨z, hz, hs1⟩ := am_ob_inv hs0
    obtain ⟨hn, hs2⟩ := am_fi_inv hs1
    obtain ⟨o, ho, hs3⟩ := am_ob_inv hs2
    obtain rfl := am_nx_inv hs3
    exact hM idx z hz pc ls st h H locs o (fun z1 => absurd z1 hn) (fun _ => hdg) ho hl.2.1 hP hS (fun H1 locs1 hP1 hS1 => kk H1 locs1 ls hP1 hS1 hl)
  | invokestatic idx =>
    obtain rfl : n = 3 := by simp [am_len] at hlen; omega
    obtain ⟨z, hz, hs1⟩ := am_ob_inv hs0
    obtain ⟨hn, hs2⟩ := am_if_inv hs1
    obtain ⟨o, ho, hs3⟩ := am_ob_inv hs2
    obtain rfl := am_nx_inv hs3
    exact hM idx z hz pc ls st h H locs o (fun _ => hdg) (fun z1 => absurd hn z1) ho hl.2.1 hP hS (fun H1 locs1 hP1 hS1 => kk H1 locs1 ls hP1 hS1 hl)
  | ireturn =>
    rcases st with _ | ⟨v, _ | ⟨w, r⟩⟩
    · cases hs0
    · cases v <;> cases hs0
    · cases v <;> cases hs0
  | lreturn =>
    rcases st with _ | ⟨v, _ | ⟨w, r⟩⟩
    · cases hs0
    · cases v <;> cases hs0
    · cases v <;> cases hs0
  | return_ =>
    rcases st with _ | ⟨v, r⟩
    · cases hs0
    · cases hs0
  | _ => cases hs0
end AMS1
