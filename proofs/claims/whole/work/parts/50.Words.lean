/-! words of a line: where they start, how long they are -/
def bmp (l : List (Nat × Nat)) : List (Nat × Nat) := l.set (l.length - 1) ((l.getD (l.length - 1) (0, 0)).1, (l.getD (l.length - 1) (0, 0)).2 + 1)
/-- all words among the first n characters -/
def wsc (s : List Nat) : Nat → List (Nat × Nat)
  | 0 => []
  | n + 1 => if s.getD n 0 = 32 then wsc s n else if n = 0 ∨ s.getD (n - 1) 0 = 32 then wsc s n ++ [(n, 1)] else bmp (wsc s n)
/-- the words that the command keeps -/
def wk (s : List Nat) : Nat → List (Nat × Nat)
  | 0 => []
  | n + 1 => if s.getD n 0 = 32 then wk s n else if (n = 0 ∨ s.getD (n - 1) 0 = 32) ∧ (wk s n).length < 8 then wk s n ++ [(n, 1)] else bmp (wk s n)
def inw (s : List Nat) (n : Nat) : Bool := !(decide (n = 0 ∨ s.getD (n - 1) 0 = 32))
theorem bmp_len (l : List (Nat × Nat)) : (bmp l).length = l.length := by simp [bmp]
theorem bmp_app (l : List (Nat × Nat)) (a b : Nat) : bmp (l ++ [(a, b)]) = l ++ [(a, b + 1)] := by
  simp [bmp]
theorem wk_s (s : List Nat) (n : Nat) : wk s (n + 1) = if s.getD n 0 = 32 then wk s n else if (n = 0 ∨ s.getD (n - 1) 0 = 32) ∧ (wk s n).length < 8 then wk s n ++ [(n, 1)] else bmp (wk s n) := rfl
theorem wsc_s (s : List Nat) (n : Nat) : wsc s (n + 1) = if s.getD n 0 = 32 then wsc s n else if n = 0 ∨ s.getD (n - 1) 0 = 32 then wsc s n ++ [(n, 1)] else bmp (wsc s n) := rfl
theorem bmp_mem {l : List (Nat × Nat)} {n : Nat} (h : ∀ p ∈ l, p.1 + p.2 ≤ n) : ∀ p ∈ bmp l, p.1 + p.2 ≤ n + 1 := by
  intro p hp
  unfold bmp at hp
  rcases List.mem_or_eq_of_mem_set hp with h1 | h1
  · have := h p h1
    omega
  · rw [h1]
    by_cases h0 : l = []
    · subst h0
      simp at hp
    · have hl : l.length - 1 < l.length := by
        have := List.length_pos_iff.mpr h0
        omega
      have := h _ (pu_getD (d := (0, 0)) hl)
      dsimp only
      omega
theorem wk_len (s : List Nat) : ∀ n, (wk s n).length ≤ 8
  | 0 => by simp [wk]
  | n + 1 => by
    have ih := wk_len s n
    rw [wk_s]
    split
    · exact ih
    · split
      · rename_i h
        rw [List.length_append, List.length_cons, List.length_nil]
        omega
      · rw [bmp_len]
        exact ih
theorem wk_bd (s : List Nat) : ∀ n, ∀ p ∈ wk s n, p.1 + p.2 ≤ n
  | 0 => by simp [wk]
  | n + 1 => by
    have ih := wk_bd s n
    rw [wk_s]
    split
    · intro p hp
      have := ih p hp
      omega
    · split
      · intro p hp
        rcases List.mem_append.mp hp with h | h
        · have := ih p h
          omega
        · rw [List.mem_singleton.mp h]
          exact Nat.le_refl _
      · exact bmp_mem ih
theorem wsc_bd (s : List Nat) : ∀ n, ∀ p ∈ wsc s n, p.1 + p.2 ≤ n
  | 0 => by simp [wsc]
  | n + 1 => by
    have ih := wsc_bd s n
    rw [wsc_s]
    split
    · intro p hp
      have := ih p hp
      omega
    · split
      · intro p hp
        rcases List.mem_append.mp hp with h | h
        · have := ih p h
          omega
        · rw [List.mem_singleton.mp h]
          exact Nat.le_refl _
      · exact bmp_mem ih
theorem bmp_take {a b : List (Nat × Nat)} (h : a.length = min 8 b.length) (ht : a.take 7 = b.take 7) (hs : b.length ≤ 8 → a = b) : (bmp a).take 7 = (bmp b).take 7 := by
  by_cases hb : b.length ≤ 8
  · rw [hs hb]
  · have ha : a.length = 8 := by omega
    unfold bmp
    rw [List.take_set_of_le (by omega), List.take_set_of_le (by omega), ht]
/-- what is kept of the words: all, if there are at most eight; the first seven of them in any case -/
theorem wk_wsc (s : List Nat) : ∀ n, (wk s n).length = min 8 (wsc s n).length ∧ (wk s n).take 7 = (wsc s n).take 7 ∧ ((wsc s n).length ≤ 8 → wk s n = wsc s n)
  | 0 => by simp [wk, wsc]
  | n + 1 => by
    obtain ⟨i1, i2, i3⟩ := wk_wsc s n
    rw [wk_s, wsc_s]
    by_cases h1 : s.getD n 0 = 32
    · rw [if_pos h1, if_pos h1]
      exact ⟨i1, i2, i3⟩
    · rw [if_neg h1, if_neg h1]
      by_cases h2 : n = 0 ∨ s.getD (n - 1) 0 = 32
      · rw [if_pos h2]
        by_cases h3 : (wk s n).length < 8
        · rw [if_pos ⟨h2, h3⟩, i3 (by omega)]
          refine ⟨?_, rfl, fun _ => rfl⟩
          rw [List.length_append, List.length_cons, List.length_nil]
          omega
        · rw [if_neg (fun h => h3 h.2)]
          have h8 : (wk s n).length = 8 := by omega
          refine ⟨?_, ?_, fun h => ?_⟩
          · rw [bmp_len, List.length_append, List.length_cons, List.length_nil]
            omega
          · have e : (bmp (wk s n)).take 7 = (wk s n).take 7 := by
              unfold bmp
              rw [List.take_set_of_le (by omega)]
            rw [e, i2, List.take_append_of_le_length (by omega)]
          · rw [List.length_append, List.length_cons, List.length_nil] at h
            omega
      · rw [if_neg h2, if_neg (fun h => h2 h.1)]
        refine ⟨?_, bmp_take i1 i2 i3, fun h => ?_⟩
        · rw [bmp_len, bmp_len]
          exact i1
        · rw [bmp_len] at h
          rw [i3 h]
-- the command's cells
def cmc (G : sp_G) (lt sa la w ce v : Nat) : va_E := .inr (4, [.ref lt, .ref sa, .ref la, .int (nI w), .int (nI ce), .ref (G.2.2 v)])
def wia (G : sp_G) (M : sp_M) (sa la : Nat) (ws : List (Nat × Nat)) : Prop := ∃ f g : Nat → Int32, M sa = some (.inl (G.2.1 1, 8, .inl f)) ∧ M la = some (.inl (G.2.1 1, 8, .inl g)) ∧ ∀ (j : Nat) (p : Nat × Nat), ws[j]? = some p → f j = nI p.1 ∧ g j = nI p.2
def cm (G : sp_G) (M : sp_M) (c lt lch : Nat) (s : List Nat) (sa la : Nat) (ws : List (Nat × Nat)) (ce v : Nat) : Prop := M c = some (cmc G lt sa la ws.length ce v) ∧ wia G M sa la ws ∧ sa ≠ la ∧ tx G M lt lch 140 s ∧ ws.length ≤ 8 ∧ (∀ p ∈ ws, p.1 + p.2 ≤ 140) ∧ ce ≤ s.length ∧ v < 14
def wS (ws : List (Nat × Nat)) (j : Nat) : Nat := (ws.getD j (0, 0)).1
def wL (ws : List (Nat × Nat)) (j : Nat) : Nat := (ws.getD j (0, 0)).2
/-- a word's characters -/
def wt (s : List Nat) (ws : List (Nat × Nat)) (j : Nat) : List Nat := pu_seg s (wS ws j) (wL ws j)
theorem wSL_bd {ws : List (Nat × Nat)} (h : ∀ p ∈ ws, p.1 + p.2 ≤ 140) (j : Nat) : wS ws j + wL ws j ≤ 140 := by
  unfold wS wL
  by_cases hj : j < ws.length
  · exact h _ (pu_getD hj)
  · rw [pu_getD_out (Nat.not_lt.mp hj)]
    decide
theorem wt_len (s : List Nat) (ws : List (Nat × Nat)) (j : Nat) : (wt s ws j).length = wL ws j := pu_seg_len _ _ _
def T_Command_start (G : sp_G) : sp_T := fun av M Post => ∃ c lt lch s sa la ws ce v j, av = [.ref c, .int (nI j)] ∧ cm G M c lt lch s sa la ws ce v ∧ j < 2 ^ 31 ∧ Post (some (.int (nI (wS ws j)))) M
set_option maxHeartbeats 4000000 in
set_option maxRecDepth 100000 in
theorem c_Command_start (l : Launch) (G : sp_G) : sp_Met l G y_Command_start b_Command_start 2 (some .int) {} (T_Command_start G) := by
  refine sp_entry (by decide) (fun av M Post h => ?_) (fun z M av Post hz _ hT => ?_)
  · obtain ⟨c, lt, lch, s, sa, la, ws, ce, v, j, rfl, -⟩ := h
    exact Nat.le_of_ble_eq_true rfl
  · obtain ⟨c, lt, lch, s, sa, la, ws, ce, v, j, rfl, ⟨h1, ⟨f, g, h2, h3, h4⟩, h5, h6, h7, h8⟩, hj, hp⟩ := hT
    refine sp_run hz _ _ e_Command_start_0 _ _ _ ?_
    simp only [k_Command_start_0, E_nil, E_iconst, E_bipush, E_sipush, E_ldc, E_ldc2, E_lconst, E_null, E_iload_n, E_lload_n, E_aload_n, E_istore_n, E_lstore_n, E_astore_n, E_astoreN_n, E_iload, E_lload, E_aload, E_istore, E_lstore, E_astore, E_astoreN, E_ldi, E_ldl, E_lda, E_ldN, E_iinc, E_iadd, E_isub, E_imul, E_iand, E_ior, E_ixor, E_ishl, E_ishr, E_idiv, E_irem, E_ineg, E_ladd, E_lsub, E_land, E_lor, E_lcmp, E_lshl, E_lshr, E_lushr, E_i2l, E_l2i, E_i2c, E_dupI, E_popI, E_dup_x1II, E_dup2II, E_dup_x1IR, E_dup2IR, E_dup_x1IN, E_dup2IN, E_dupR, E_popR, E_dup_x1RI, E_dup2RI, E_dup_x1RR, E_dup2RR, E_dup_x1RN, E_dup2RN, E_dupN, E_popN, E_dup_x1NI, E_dup2NI, E_dup_x1NR, E_dup2NR, E_dup_x1NN, E_dup2NN, E_goto, E_if_eq, E_if_ne, E_if_lt, E_if_ge, E_if_gt, E_if_le, E_ic_eq, E_ic_ne, E_ic_lt, E_ic_ge, E_ic_gt, E_ic_le, E_ifnull, E_ifnullN, E_ifnonnull, E_ifnonnullN, E_get, E_gf, E_xv, E_n0, E_ns, E_putI, E_putR, E_putN, E_pf, E_st0, E_sts, E_iaload, E_caload, E_laload, E_aaload, E_alen, E_iast, E_cast, E_last, E_xI, E_xJ, E_xQ, E_xN, E_lk, E_lkn, E_s1, E_s1h, E_s1I, E_s1R, E_s1N, E_s1L, E_s2, E_s2h, E_s2L, E_s2I, E_s2R, E_s2N, E_a1, E_a0, E_aI, E_aR, E_aN, E_aL, Option.isSome_some, eq_self, true_and, and_true, true_or, or_true, ne_eq, not_false_eq_true, not_true_eq_false, reduceIte, reduceCtorEq, Nat.reduceAdd, Nat.reduceBEq, Nat.reduceEqDiff, Option.toList_some, Option.toList_none, List.cons_append, List.nil_append, h1, cmc, h2, nI_clamp hj]
    refine ⟨fun h => absurd h (nI_pos hj), fun _ => ⟨fun h => ?_, fun h => ?_⟩⟩
    · have hl : ws.length ≤ j := (nI_leI (by omega) hj).mp h
      refine sp_run hz _ _ e_Command_start_21 _ _ _ ?_
      simp only [k_Command_start_21, E_nil, E_iconst, E_bipush, E_sipush, E_ldc, E_ldc2, E_lconst, E_null, E_iload_n, E_lload_n, E_aload_n, E_istore_n, E_lstore_n, E_astore_n, E_astoreN_n, E_iload, E_lload, E_aload, E_istore, E_lstore, E_astore, E_astoreN, E_ldi, E_ldl, E_lda, E_ldN, E_iinc, E_iadd, E_isub, E_imul, E_iand, E_ior, E_ixor, E_ishl, E_ishr, E_idiv, E_irem, E_ineg, E_ladd, E_lsub, E_land, E_lor, E_lcmp, E_lshl, E_lshr, E_lushr, E_i2l, E_l2i, E_i2c, E_dupI, E_popI, E_dup_x1II, E_dup2II, E_dup_x1IR, E_dup2IR, E_dup_x1IN, E_dup2IN, E_dupR, E_popR, E_dup_x1RI, E_dup2RI, E_dup_x1RR, E_dup2RR, E_dup_x1RN, E_dup2RN, E_dupN, E_popN, E_dup_x1NI, E_dup2NI, E_dup_x1NR, E_dup2NR, E_dup_x1NN, E_dup2NN, E_goto, E_if_eq, E_if_ne, E_if_lt, E_if_ge, E_if_gt, E_if_le, E_ic_eq, E_ic_ne, E_ic_lt, E_ic_ge, E_ic_gt, E_ic_le, E_ifnull, E_ifnullN, E_ifnonnull, E_ifnonnullN, E_get, E_gf, E_xv, E_n0, E_ns, E_putI, E_putR, E_putN, E_pf, E_st0, E_sts, E_iaload, E_caload, E_laload, E_aaload, E_alen, E_iast, E_cast, E_last, E_xI, E_xJ, E_xQ, E_xN, E_lk, E_lkn, E_s1, E_s1h, E_s1I, E_s1R, E_s1N, E_s1L, E_s2, E_s2h, E_s2L, E_s2I, E_s2R, E_s2N, E_a1, E_a0, E_aI, E_aR, E_aN, E_aL, Option.isSome_some, eq_self, true_and, and_true, true_or, or_true, ne_eq, not_false_eq_true, not_true_eq_false, reduceIte, reduceCtorEq, Nat.reduceAdd, Nat.reduceBEq, Nat.reduceEqDiff, Option.toList_some, Option.toList_none, List.cons_append, List.nil_append]
      unfold wS at hp
      rw [pu_getD_out hl] at hp
      exact sp_iret hz d_Command_start_22 (Nat.le_refl _) (Nat.le_refl _) hp
    · have hl : j < ws.length := Nat.not_le.mp fun q => h ((nI_leI (by omega) hj).mpr q)
      refine ⟨nI_in (by omega) (by decide), ?_⟩
      rw [(h4 j ws[j] (List.getElem?_eq_getElem hl)).1]
      unfold wS at hp
      rw [List.getD_eq_getElem?_getD, List.getElem?_eq_getElem hl] at hp
      exact sp_iret hz d_Command_start_22 (Nat.le_refl _) (Nat.le_refl _) hp
def T_Command_length (G : sp_G) : sp_T := fun av M Post => ∃ c lt lch s sa la ws ce v j, av = [.ref c, .int (nI j)] ∧ cm G M c lt lch s sa la ws ce v ∧ j < 2 ^ 31 ∧ Post (some (.int (nI (wL ws j)))) M
set_option maxHeartbeats 4000000 in
set_option maxRecDepth 100000 in
theorem c_Command_length (l : Launch) (G : sp_G) : sp_Met l G y_Command_length b_Command_length 2 (some .int) {} (T_Command_length G) := by
  refine sp_entry (by decide) (fun av M Post h => ?_) (fun z M av Post hz _ hT => ?_)
  · obtain ⟨c, lt, lch, s, sa, la, ws, ce, v, j, rfl, -⟩ := h
    exact Nat.le_of_ble_eq_true rfl
  · obtain ⟨c, lt, lch, s, sa, la, ws, ce, v, j, rfl, ⟨h1, ⟨f, g, h2, h3, h4⟩, h5, h6, h7, h8⟩, hj, hp⟩ := hT
    refine sp_run hz _ _ e_Command_length_0 _ _ _ ?_
    simp only [k_Command_length_0, E_nil, E_iconst, E_bipush, E_sipush, E_ldc, E_ldc2, E_lconst, E_null, E_iload_n, E_lload_n, E_aload_n, E_istore_n, E_lstore_n, E_astore_n, E_astoreN_n, E_iload, E_lload, E_aload, E_istore, E_lstore, E_astore, E_astoreN, E_ldi, E_ldl, E_lda, E_ldN, E_iinc, E_iadd, E_isub, E_imul, E_iand, E_ior, E_ixor, E_ishl, E_ishr, E_idiv, E_irem, E_ineg, E_ladd, E_lsub, E_land, E_lor, E_lcmp, E_lshl, E_lshr, E_lushr, E_i2l, E_l2i, E_i2c, E_dupI, E_popI, E_dup_x1II, E_dup2II, E_dup_x1IR, E_dup2IR, E_dup_x1IN, E_dup2IN, E_dupR, E_popR, E_dup_x1RI, E_dup2RI, E_dup_x1RR, E_dup2RR, E_dup_x1RN, E_dup2RN, E_dupN, E_popN, E_dup_x1NI, E_dup2NI, E_dup_x1NR, E_dup2NR, E_dup_x1NN, E_dup2NN, E_goto, E_if_eq, E_if_ne, E_if_lt, E_if_ge, E_if_gt, E_if_le, E_ic_eq, E_ic_ne, E_ic_lt, E_ic_ge, E_ic_gt, E_ic_le, E_ifnull, E_ifnullN, E_ifnonnull, E_ifnonnullN, E_get, E_gf, E_xv, E_n0, E_ns, E_putI, E_putR, E_putN, E_pf, E_st0, E_sts, E_iaload, E_caload, E_laload, E_aaload, E_alen, E_iast, E_cast, E_last, E_xI, E_xJ, E_xQ, E_xN, E_lk, E_lkn, E_s1, E_s1h, E_s1I, E_s1R, E_s1N, E_s1L, E_s2, E_s2h, E_s2L, E_s2I, E_s2R, E_s2N, E_a1, E_a0, E_aI, E_aR, E_aN, E_aL, Option.isSome_some, eq_self, true_and, and_true, true_or, or_true, ne_eq, not_false_eq_true, not_true_eq_false, reduceIte, reduceCtorEq, Nat.reduceAdd, Nat.reduceBEq, Nat.reduceEqDiff, Option.toList_some, Option.toList_none, List.cons_append, List.nil_append, h1, cmc, h3, nI_clamp hj]
    refine ⟨fun h => absurd h (nI_pos hj), fun _ => ⟨fun h => ?_, fun h => ?_⟩⟩
    · have hl : ws.length ≤ j := (nI_leI (by omega) hj).mp h
      refine sp_run hz _ _ e_Command_length_21 _ _ _ ?_
      simp only [k_Command_length_21, E_nil, E_iconst, E_bipush, E_sipush, E_ldc, E_ldc2, E_lconst, E_null, E_iload_n, E_lload_n, E_aload_n, E_istore_n, E_lstore_n, E_astore_n, E_astoreN_n, E_iload, E_lload, E_aload, E_istore, E_lstore, E_astore, E_astoreN, E_ldi, E_ldl, E_lda, E_ldN, E_iinc, E_iadd, E_isub, E_imul, E_iand, E_ior, E_ixor, E_ishl, E_ishr, E_idiv, E_irem, E_ineg, E_ladd, E_lsub, E_land, E_lor, E_lcmp, E_lshl, E_lshr, E_lushr, E_i2l, E_l2i, E_i2c, E_dupI, E_popI, E_dup_x1II, E_dup2II, E_dup_x1IR, E_dup2IR, E_dup_x1IN, E_dup2IN, E_dupR, E_popR, E_dup_x1RI, E_dup2RI, E_dup_x1RR, E_dup2RR, E_dup_x1RN, E_dup2RN, E_dupN, E_popN, E_dup_x1NI, E_dup2NI, E_dup_x1NR, E_dup2NR, E_dup_x1NN, E_dup2NN, E_goto, E_if_eq, E_if_ne, E_if_lt, E_if_ge, E_if_gt, E_if_le, E_ic_eq, E_ic_ne, E_ic_lt, E_ic_ge, E_ic_gt, E_ic_le, E_ifnull, E_ifnullN, E_ifnonnull, E_ifnonnullN, E_get, E_gf, E_xv, E_n0, E_ns, E_putI, E_putR, E_putN, E_pf, E_st0, E_sts, E_iaload, E_caload, E_laload, E_aaload, E_alen, E_iast, E_cast, E_last, E_xI, E_xJ, E_xQ, E_xN, E_lk, E_lkn, E_s1, E_s1h, E_s1I, E_s1R, E_s1N, E_s1L, E_s2, E_s2h, E_s2L, E_s2I, E_s2R, E_s2N, E_a1, E_a0, E_aI, E_aR, E_aN, E_aL, Option.isSome_some, eq_self, true_and, and_true, true_or, or_true, ne_eq, not_false_eq_true, not_true_eq_false, reduceIte, reduceCtorEq, Nat.reduceAdd, Nat.reduceBEq, Nat.reduceEqDiff, Option.toList_some, Option.toList_none, List.cons_append, List.nil_append]
      unfold wL at hp
      rw [pu_getD_out hl] at hp
      exact sp_iret hz d_Command_length_22 (Nat.le_refl _) (Nat.le_refl _) hp
    · have hl : j < ws.length := Nat.not_le.mp fun q => h ((nI_leI (by omega) hj).mpr q)
      refine ⟨nI_in (by omega) (by decide), ?_⟩
      rw [(h4 j ws[j] (List.getElem?_eq_getElem hl)).2]
      unfold wL at hp
      rw [List.getD_eq_getElem?_getD, List.getElem?_eq_getElem hl] at hp
      exact sp_iret hz d_Command_length_22 (Nat.le_refl _) (Nat.le_refl _) hp
def T_Command_words (G : sp_G) : sp_T := fun av M Post => ∃ c lt lch s sa la ws ce v, av = [.ref c] ∧ cm G M c lt lch s sa la ws ce v ∧ Post (some (.int (nI ws.length))) M
set_option maxHeartbeats 4000000 in
set_option maxRecDepth 100000 in
theorem c_Command_words (l : Launch) (G : sp_G) : sp_Met l G y_Command_words b_Command_words 1 (some .int) {} (T_Command_words G) := by
  refine sp_entry (by decide) (fun av M Post h => ?_) (fun z M av Post hz _ hT => ?_)
  · obtain ⟨c, lt, lch, s, sa, la, ws, ce, v, rfl, -⟩ := h
    exact Nat.le_of_ble_eq_true rfl
  · obtain ⟨c, lt, lch, s, sa, la, ws, ce, v, rfl, ⟨h1, -⟩, hp⟩ := hT
    refine sp_run hz _ _ e_Command_words_0 _ _ _ ?_
    simp only [k_Command_words_0, E_nil, E_iconst, E_bipush, E_sipush, E_ldc, E_ldc2, E_lconst, E_null, E_iload_n, E_lload_n, E_aload_n, E_istore_n, E_lstore_n, E_astore_n, E_astoreN_n, E_iload, E_lload, E_aload, E_istore, E_lstore, E_astore, E_astoreN, E_ldi, E_ldl, E_lda, E_ldN, E_iinc, E_iadd, E_isub, E_imul, E_iand, E_ior, E_ixor, E_ishl, E_ishr, E_idiv, E_irem, E_ineg, E_ladd, E_lsub, E_land, E_lor, E_lcmp, E_lshl, E_lshr, E_lushr, E_i2l, E_l2i, E_i2c, E_dupI, E_popI, E_dup_x1II, E_dup2II, E_dup_x1IR, E_dup2IR, E_dup_x1IN, E_dup2IN, E_dupR, E_popR, E_dup_x1RI, E_dup2RI, E_dup_x1RR, E_dup2RR, E_dup_x1RN, E_dup2RN, E_dupN, E_popN, E_dup_x1NI, E_dup2NI, E_dup_x1NR, E_dup2NR, E_dup_x1NN, E_dup2NN, E_goto, E_if_eq, E_if_ne, E_if_lt, E_if_ge, E_if_gt, E_if_le, E_ic_eq, E_ic_ne, E_ic_lt, E_ic_ge, E_ic_gt, E_ic_le, E_ifnull, E_ifnullN, E_ifnonnull, E_ifnonnullN, E_get, E_gf, E_xv, E_n0, E_ns, E_putI, E_putR, E_putN, E_pf, E_st0, E_sts, E_iaload, E_caload, E_laload, E_aaload, E_alen, E_iast, E_cast, E_last, E_xI, E_xJ, E_xQ, E_xN, E_lk, E_lkn, E_s1, E_s1h, E_s1I, E_s1R, E_s1N, E_s1L, E_s2, E_s2h, E_s2L, E_s2I, E_s2R, E_s2N, E_a1, E_a0, E_aI, E_aR, E_aN, E_aL, Option.isSome_some, eq_self, true_and, and_true, true_or, or_true, ne_eq, not_false_eq_true, not_true_eq_false, reduceIte, reduceCtorEq, Nat.reduceAdd, Nat.reduceBEq, Nat.reduceEqDiff, Option.toList_some, Option.toList_none, List.cons_append, List.nil_append, h1, cmc]
    exact sp_iret hz d_Command_words_4 (Nat.le_refl _) (Nat.le_refl _) hp
def T_Command_verb (G : sp_G) : sp_T := fun av M Post => ∃ c lt lch s sa la ws ce v, av = [.ref c] ∧ cm G M c lt lch s sa la ws ce v ∧ Post (some (.ref (G.2.2 v))) M
set_option maxHeartbeats 4000000 in
set_option maxRecDepth 100000 in
theorem c_Command_verb (l : Launch) (G : sp_G) : sp_Met l G y_Command_verb b_Command_verb 1 (some (.object "SlabPantry$Verb")) {} (T_Command_verb G) := by
  refine sp_entry (by decide) (fun av M Post h => ?_) (fun z M av Post hz _ hT => ?_)
  · obtain ⟨c, lt, lch, s, sa, la, ws, ce, v, rfl, -⟩ := h
    exact Nat.le_of_ble_eq_true rfl
  · obtain ⟨c, lt, lch, s, sa, la, ws, ce, v, rfl, ⟨h1, -⟩, hp⟩ := hT
    refine sp_run hz _ _ e_Command_verb_0 _ _ _ ?_
    simp only [k_Command_verb_0, E_nil, E_iconst, E_bipush, E_sipush, E_ldc, E_ldc2, E_lconst, E_null, E_iload_n, E_lload_n, E_aload_n, E_istore_n, E_lstore_n, E_astore_n, E_astoreN_n, E_iload, E_lload, E_aload, E_istore, E_lstore, E_astore, E_astoreN, E_ldi, E_ldl, E_lda, E_ldN, E_iinc, E_iadd, E_isub, E_imul, E_iand, E_ior, E_ixor, E_ishl, E_ishr, E_idiv, E_irem, E_ineg, E_ladd, E_lsub, E_land, E_lor, E_lcmp, E_lshl, E_lshr, E_lushr, E_i2l, E_l2i, E_i2c, E_dupI, E_popI, E_dup_x1II, E_dup2II, E_dup_x1IR, E_dup2IR, E_dup_x1IN, E_dup2IN, E_dupR, E_popR, E_dup_x1RI, E_dup2RI, E_dup_x1RR, E_dup2RR, E_dup_x1RN, E_dup2RN, E_dupN, E_popN, E_dup_x1NI, E_dup2NI, E_dup_x1NR, E_dup2NR, E_dup_x1NN, E_dup2NN, E_goto, E_if_eq, E_if_ne, E_if_lt, E_if_ge, E_if_gt, E_if_le, E_ic_eq, E_ic_ne, E_ic_lt, E_ic_ge, E_ic_gt, E_ic_le, E_ifnull, E_ifnullN, E_ifnonnull, E_ifnonnullN, E_get, E_gf, E_xv, E_n0, E_ns, E_putI, E_putR, E_putN, E_pf, E_st0, E_sts, E_iaload, E_caload, E_laload, E_aaload, E_alen, E_iast, E_cast, E_last, E_xI, E_xJ, E_xQ, E_xN, E_lk, E_lkn, E_s1, E_s1h, E_s1I, E_s1R, E_s1N, E_s1L, E_s2, E_s2h, E_s2L, E_s2I, E_s2R, E_s2N, E_a1, E_a0, E_aI, E_aR, E_aN, E_aL, Option.isSome_some, eq_self, true_and, and_true, true_or, or_true, ne_eq, not_false_eq_true, not_true_eq_false, reduceIte, reduceCtorEq, Nat.reduceAdd, Nat.reduceBEq, Nat.reduceEqDiff, Option.toList_some, Option.toList_none, List.cons_append, List.nil_append, h1, cmc]
    exact sp_aret (r := some _) hz d_Command_verb_4 (Nat.le_refl _) (Nat.le_refl _) hp
def T_Command_dataStart (G : sp_G) : sp_T := fun av M Post => ∃ c lt lch s sa la ws ce v, av = [.ref c] ∧ cm G M c lt lch s sa la ws ce v ∧ Post (some (.int (nI (ce + 1)))) M
set_option maxHeartbeats 4000000 in
set_option maxRecDepth 100000 in
theorem c_Command_dataStart (l : Launch) (G : sp_G) : sp_Met l G y_Command_dataStart b_Command_dataStart 1 (some .int) {} (T_Command_dataStart G) := by
  refine sp_entry (by decide) (fun av M Post h => ?_) (fun z M av Post hz _ hT => ?_)
  · obtain ⟨c, lt, lch, s, sa, la, ws, ce, v, rfl, -⟩ := h
    exact Nat.le_of_ble_eq_true rfl
  · obtain ⟨c, lt, lch, s, sa, la, ws, ce, v, rfl, ⟨h1, -⟩, hp⟩ := hT
    refine sp_run hz _ _ e_Command_dataStart_0 _ _ _ ?_
    simp only [k_Command_dataStart_0, E_nil, E_iconst, E_bipush, E_sipush, E_ldc, E_ldc2, E_lconst, E_null, E_iload_n, E_lload_n, E_aload_n, E_istore_n, E_lstore_n, E_astore_n, E_astoreN_n, E_iload, E_lload, E_aload, E_istore, E_lstore, E_astore, E_astoreN, E_ldi, E_ldl, E_lda, E_ldN, E_iinc, E_iadd, E_isub, E_imul, E_iand, E_ior, E_ixor, E_ishl, E_ishr, E_idiv, E_irem, E_ineg, E_ladd, E_lsub, E_land, E_lor, E_lcmp, E_lshl, E_lshr, E_lushr, E_i2l, E_l2i, E_i2c, E_dupI, E_popI, E_dup_x1II, E_dup2II, E_dup_x1IR, E_dup2IR, E_dup_x1IN, E_dup2IN, E_dupR, E_popR, E_dup_x1RI, E_dup2RI, E_dup_x1RR, E_dup2RR, E_dup_x1RN, E_dup2RN, E_dupN, E_popN, E_dup_x1NI, E_dup2NI, E_dup_x1NR, E_dup2NR, E_dup_x1NN, E_dup2NN, E_goto, E_if_eq, E_if_ne, E_if_lt, E_if_ge, E_if_gt, E_if_le, E_ic_eq, E_ic_ne, E_ic_lt, E_ic_ge, E_ic_gt, E_ic_le, E_ifnull, E_ifnullN, E_ifnonnull, E_ifnonnullN, E_get, E_gf, E_xv, E_n0, E_ns, E_putI, E_putR, E_putN, E_pf, E_st0, E_sts, E_iaload, E_caload, E_laload, E_aaload, E_alen, E_iast, E_cast, E_last, E_xI, E_xJ, E_xQ, E_xN, E_lk, E_lkn, E_s1, E_s1h, E_s1I, E_s1R, E_s1N, E_s1L, E_s2, E_s2h, E_s2L, E_s2I, E_s2R, E_s2N, E_a1, E_a0, E_aI, E_aR, E_aN, E_aL, Option.isSome_some, eq_self, true_and, and_true, true_or, or_true, ne_eq, not_false_eq_true, not_true_eq_false, reduceIte, reduceCtorEq, Nat.reduceAdd, Nat.reduceBEq, Nat.reduceEqDiff, Option.toList_some, Option.toList_none, List.cons_append, List.nil_append, h1, cmc, nI_1]
    exact sp_iret hz d_Command_dataStart_6 (Nat.le_refl _) (Nat.le_refl _) hp
def T_Command_dataLength (G : sp_G) : sp_T := fun av M Post => ∃ c lt lch s sa la ws ce v, av = [.ref c] ∧ cm G M c lt lch s sa la ws ce v ∧ Post (some (.int (nI s.length - nI (ce + 1)))) M
set_option maxHeartbeats 4000000 in
set_option maxRecDepth 100000 in
theorem c_Command_dataLength (l : Launch) (G : sp_G) : sp_Met l G y_Command_dataLength b_Command_dataLength 1 (some .int) { frames := 1, locals := 20 } (T_Command_dataLength G) := by
  refine sp_entry (by decide) (fun av M Post h => ?_) (fun z M av Post hz _ hT => ?_)
  · obtain ⟨c, lt, lch, s, sa, la, ws, ce, v, rfl, -⟩ := h
    exact Nat.le_of_ble_eq_true rfl
  · obtain ⟨c, lt, lch, s, sa, la, ws, ce, v, rfl, hc, hp⟩ := hT
    have h1 := hc.1
    have h6 := hc.2.2.2.1
    refine sp_run hz _ _ e_Command_dataLength_0 _ _ _ ?_
    simp only [k_Command_dataLength_0, E_nil, E_iconst, E_bipush, E_sipush, E_ldc, E_ldc2, E_lconst, E_null, E_iload_n, E_lload_n, E_aload_n, E_istore_n, E_lstore_n, E_astore_n, E_astoreN_n, E_iload, E_lload, E_aload, E_istore, E_lstore, E_astore, E_astoreN, E_ldi, E_ldl, E_lda, E_ldN, E_iinc, E_iadd, E_isub, E_imul, E_iand, E_ior, E_ixor, E_ishl, E_ishr, E_idiv, E_irem, E_ineg, E_ladd, E_lsub, E_land, E_lor, E_lcmp, E_lshl, E_lshr, E_lushr, E_i2l, E_l2i, E_i2c, E_dupI, E_popI, E_dup_x1II, E_dup2II, E_dup_x1IR, E_dup2IR, E_dup_x1IN, E_dup2IN, E_dupR, E_popR, E_dup_x1RI, E_dup2RI, E_dup_x1RR, E_dup2RR, E_dup_x1RN, E_dup2RN, E_dupN, E_popN, E_dup_x1NI, E_dup2NI, E_dup_x1NR, E_dup2NR, E_dup_x1NN, E_dup2NN, E_goto, E_if_eq, E_if_ne, E_if_lt, E_if_ge, E_if_gt, E_if_le, E_ic_eq, E_ic_ne, E_ic_lt, E_ic_ge, E_ic_gt, E_ic_le, E_ifnull, E_ifnullN, E_ifnonnull, E_ifnonnullN, E_get, E_gf, E_xv, E_n0, E_ns, E_putI, E_putR, E_putN, E_pf, E_st0, E_sts, E_iaload, E_caload, E_laload, E_aaload, E_alen, E_iast, E_cast, E_last, E_xI, E_xJ, E_xQ, E_xN, E_lk, E_lkn, E_s1, E_s1h, E_s1I, E_s1R, E_s1N, E_s1L, E_s2, E_s2h, E_s2L, E_s2I, E_s2R, E_s2N, E_a1, E_a0, E_aI, E_aR, E_aN, E_aL, Option.isSome_some, eq_self, true_and, and_true, true_or, or_true, ne_eq, not_false_eq_true, not_true_eq_false, reduceIte, reduceCtorEq, Nat.reduceAdd, Nat.reduceBEq, Nat.reduceEqDiff, Option.toList_some, Option.toList_none, List.cons_append, List.nil_append, h1, cmc]
    refine sp_callV hz (c_Text_length l G) (ci := 0) (As := []) (rest := []) rfl w_Command_95 (by decide) h6.1 rfl (Nat.le_of_ble_eq_true rfl) d_Command_dataLength_4 ⟨lt, lch, 140, s, rfl, h6, ?_⟩ rfl
    refine sp_run hz _ _ e_Command_dataLength_7 _ _ _ ?_
    simp only [k_Command_dataLength_7, E_nil, E_iconst, E_bipush, E_sipush, E_ldc, E_ldc2, E_lconst, E_null, E_iload_n, E_lload_n, E_aload_n, E_istore_n, E_lstore_n, E_astore_n, E_astoreN_n, E_iload, E_lload, E_aload, E_istore, E_lstore, E_astore, E_astoreN, E_ldi, E_ldl, E_lda, E_ldN, E_iinc, E_iadd, E_isub, E_imul, E_iand, E_ior, E_ixor, E_ishl, E_ishr, E_idiv, E_irem, E_ineg, E_ladd, E_lsub, E_land, E_lor, E_lcmp, E_lshl, E_lshr, E_lushr, E_i2l, E_l2i, E_i2c, E_dupI, E_popI, E_dup_x1II, E_dup2II, E_dup_x1IR, E_dup2IR, E_dup_x1IN, E_dup2IN, E_dupR, E_popR, E_dup_x1RI, E_dup2RI, E_dup_x1RR, E_dup2RR, E_dup_x1RN, E_dup2RN, E_dupN, E_popN, E_dup_x1NI, E_dup2NI, E_dup_x1NR, E_dup2NR, E_dup_x1NN, E_dup2NN, E_goto, E_if_eq, E_if_ne, E_if_lt, E_if_ge, E_if_gt, E_if_le, E_ic_eq, E_ic_ne, E_ic_lt, E_ic_ge, E_ic_gt, E_ic_le, E_ifnull, E_ifnullN, E_ifnonnull, E_ifnonnullN, E_get, E_gf, E_xv, E_n0, E_ns, E_putI, E_putR, E_putN, E_pf, E_st0, E_sts, E_iaload, E_caload, E_laload, E_aaload, E_alen, E_iast, E_cast, E_last, E_xI, E_xJ, E_xQ, E_xN, E_lk, E_lkn, E_s1, E_s1h, E_s1I, E_s1R, E_s1N, E_s1L, E_s2, E_s2h, E_s2L, E_s2I, E_s2R, E_s2N, E_a1, E_a0, E_aI, E_aR, E_aN, E_aL, Option.isSome_some, eq_self, true_and, and_true, true_or, or_true, ne_eq, not_false_eq_true, not_true_eq_false, reduceIte, reduceCtorEq, Nat.reduceAdd, Nat.reduceBEq, Nat.reduceEqDiff, Option.toList_some, Option.toList_none, List.cons_append, List.nil_append]
    refine sp_callV hz (c_Command_dataStart l G) (ci := 4) (As := []) (rest := [.int (nI s.length)]) rfl w_Command_97 (by decide) h1 rfl (Nat.le_of_ble_eq_true rfl) d_Command_dataLength_8 ⟨c, lt, lch, s, sa, la, ws, ce, v, rfl, hc, ?_⟩ rfl
    refine sp_run hz _ _ e_Command_dataLength_11 _ _ _ ?_
    simp only [k_Command_dataLength_11, E_nil, E_iconst, E_bipush, E_sipush, E_ldc, E_ldc2, E_lconst, E_null, E_iload_n, E_lload_n, E_aload_n, E_istore_n, E_lstore_n, E_astore_n, E_astoreN_n, E_iload, E_lload, E_aload, E_istore, E_lstore, E_astore, E_astoreN, E_ldi, E_ldl, E_lda, E_ldN, E_iinc, E_iadd, E_isub, E_imul, E_iand, E_ior, E_ixor, E_ishl, E_ishr, E_idiv, E_irem, E_ineg, E_ladd, E_lsub, E_land, E_lor, E_lcmp, E_lshl, E_lshr, E_lushr, E_i2l, E_l2i, E_i2c, E_dupI, E_popI, E_dup_x1II, E_dup2II, E_dup_x1IR, E_dup2IR, E_dup_x1IN, E_dup2IN, E_dupR, E_popR, E_dup_x1RI, E_dup2RI, E_dup_x1RR, E_dup2RR, E_dup_x1RN, E_dup2RN, E_dupN, E_popN, E_dup_x1NI, E_dup2NI, E_dup_x1NR, E_dup2NR, E_dup_x1NN, E_dup2NN, E_goto, E_if_eq, E_if_ne, E_if_lt, E_if_ge, E_if_gt, E_if_le, E_ic_eq, E_ic_ne, E_ic_lt, E_ic_ge, E_ic_gt, E_ic_le, E_ifnull, E_ifnullN, E_ifnonnull, E_ifnonnullN, E_get, E_gf, E_xv, E_n0, E_ns, E_putI, E_putR, E_putN, E_pf, E_st0, E_sts, E_iaload, E_caload, E_laload, E_aaload, E_alen, E_iast, E_cast, E_last, E_xI, E_xJ, E_xQ, E_xN, E_lk, E_lkn, E_s1, E_s1h, E_s1I, E_s1R, E_s1N, E_s1L, E_s2, E_s2h, E_s2L, E_s2I, E_s2R, E_s2N, E_a1, E_a0, E_aI, E_aR, E_aN, E_aL, Option.isSome_some, eq_self, true_and, and_true, true_or, or_true, ne_eq, not_false_eq_true, not_true_eq_false, reduceIte, reduceCtorEq, Nat.reduceAdd, Nat.reduceBEq, Nat.reduceEqDiff, Option.toList_some, Option.toList_none, List.cons_append, List.nil_append]
    exact sp_iret hz d_Command_dataLength_12 (Nat.le_refl _) (Nat.le_refl _) hp
def hmin (s : List Nat) (ws : List (Nat × Nat)) (j : Nat) : Bool := decide (0 < wL ws j ∧ s.getD (wS ws j) 0 = 45)
def T_Command_hasMinus (G : sp_G) : sp_T := fun av M Post => ∃ c lt lch s sa la ws ce v j, av = [.ref c, .int (nI j)] ∧ cm G M c lt lch s sa la ws ce v ∧ j < 2 ^ 31 ∧ Post (some (.int (b2i (hmin s ws j)))) M
set_option maxHeartbeats 4000000 in
set_option maxRecDepth 100000 in
theorem c_Command_hasMinus (l : Launch) (G : sp_G) : sp_Met l G y_Command_hasMinus b_Command_hasMinus 2 (some .boolean) { frames := 1, locals := 21 } (T_Command_hasMinus G) := by
  refine sp_entry (by decide) (fun av M Post h => ?_) (fun z M av Post hz _ hT => ?_)
  · obtain ⟨c, lt, lch, s, sa, la, ws, ce, v, j, rfl, -⟩ := h
    exact Nat.le_of_ble_eq_true rfl
  · obtain ⟨c, lt, lch, s, sa, la, ws, ce, v, j, rfl, hc, hj, hp⟩ := hT
    have h1 := hc.1
    have h6 := hc.2.2.2.1
    have hb := wSL_bd hc.2.2.2.2.2.1 j
    have no : hmin s ws j = false → ∀ L : sp_L, sp_W z G M (sp_Q z G M Post 0 0) 2 0 0 29 L [] M := by
      intro h L
      rw [h] at hp
      refine sp_run hz _ _ e_Command_hasMinus_29 _ _ _ ?_
      simp only [k_Command_hasMinus_29, E_nil, E_iconst, E_bipush, E_sipush, E_ldc, E_ldc2, E_lconst, E_null, E_iload_n, E_lload_n, E_aload_n, E_istore_n, E_lstore_n, E_astore_n, E_astoreN_n, E_iload, E_lload, E_aload, E_istore, E_lstore, E_astore, E_astoreN, E_ldi, E_ldl, E_lda, E_ldN, E_iinc, E_iadd, E_isub, E_imul, E_iand, E_ior, E_ixor, E_ishl, E_ishr, E_idiv, E_irem, E_ineg, E_ladd, E_lsub, E_land, E_lor, E_lcmp, E_lshl, E_lshr, E_lushr, E_i2l, E_l2i, E_i2c, E_dupI, E_popI, E_dup_x1II, E_dup2II, E_dup_x1IR, E_dup2IR, E_dup_x1IN, E_dup2IN, E_dupR, E_popR, E_dup_x1RI, E_dup2RI, E_dup_x1RR, E_dup2RR, E_dup_x1RN, E_dup2RN, E_dupN, E_popN, E_dup_x1NI, E_dup2NI, E_dup_x1NR, E_dup2NR, E_dup_x1NN, E_dup2NN, E_goto, E_if_eq, E_if_ne, E_if_lt, E_if_ge, E_if_gt, E_if_le, E_ic_eq, E_ic_ne, E_ic_lt, E_ic_ge, E_ic_gt, E_ic_le, E_ifnull, E_ifnullN, E_ifnonnull, E_ifnonnullN, E_get, E_gf, E_xv, E_n0, E_ns, E_putI, E_putR, E_putN, E_pf, E_st0, E_sts, E_iaload, E_caload, E_laload, E_aaload, E_alen, E_iast, E_cast, E_last, E_xI, E_xJ, E_xQ, E_xN, E_lk, E_lkn, E_s1, E_s1h, E_s1I, E_s1R, E_s1N, E_s1L, E_s2, E_s2h, E_s2L, E_s2I, E_s2R, E_s2N, E_a1, E_a0, E_aI, E_aR, E_aN, E_aL, Option.isSome_some, eq_self, true_and, and_true, true_or, or_true, ne_eq, not_false_eq_true, not_true_eq_false, reduceIte, reduceCtorEq, Nat.reduceAdd, Nat.reduceBEq, Nat.reduceEqDiff, Option.toList_some, Option.toList_none, List.cons_append, List.nil_append]
      exact sp_zret hz d_Command_hasMinus_30 rfl (Nat.le_refl _) (Nat.le_refl _) hp
    refine sp_run hz _ _ e_Command_hasMinus_0 _ _ _ ?_
    simp only [k_Command_hasMinus_0, E_nil, E_iconst, E_bipush, E_sipush, E_ldc, E_ldc2, E_lconst, E_null, E_iload_n, E_lload_n, E_aload_n, E_istore_n, E_lstore_n, E_astore_n, E_astoreN_n, E_iload, E_lload, E_aload, E_istore, E_lstore, E_astore, E_astoreN, E_ldi, E_ldl, E_lda, E_ldN, E_iinc, E_iadd, E_isub, E_imul, E_iand, E_ior, E_ixor, E_ishl, E_ishr, E_idiv, E_irem, E_ineg, E_ladd, E_lsub, E_land, E_lor, E_lcmp, E_lshl, E_lshr, E_lushr, E_i2l, E_l2i, E_i2c, E_dupI, E_popI, E_dup_x1II, E_dup2II, E_dup_x1IR, E_dup2IR, E_dup_x1IN, E_dup2IN, E_dupR, E_popR, E_dup_x1RI, E_dup2RI, E_dup_x1RR, E_dup2RR, E_dup_x1RN, E_dup2RN, E_dupN, E_popN, E_dup_x1NI, E_dup2NI, E_dup_x1NR, E_dup2NR, E_dup_x1NN, E_dup2NN, E_goto, E_if_eq, E_if_ne, E_if_lt, E_if_ge, E_if_gt, E_if_le, E_ic_eq, E_ic_ne, E_ic_lt, E_ic_ge, E_ic_gt, E_ic_le, E_ifnull, E_ifnullN, E_ifnonnull, E_ifnonnullN, E_get, E_gf, E_xv, E_n0, E_ns, E_putI, E_putR, E_putN, E_pf, E_st0, E_sts, E_iaload, E_caload, E_laload, E_aaload, E_alen, E_iast, E_cast, E_last, E_xI, E_xJ, E_xQ, E_xN, E_lk, E_lkn, E_s1, E_s1h, E_s1I, E_s1R, E_s1N, E_s1L, E_s2, E_s2h, E_s2L, E_s2I, E_s2R, E_s2N, E_a1, E_a0, E_aI, E_aR, E_aN, E_aL, Option.isSome_some, eq_self, true_and, and_true, true_or, or_true, ne_eq, not_false_eq_true, not_true_eq_false, reduceIte, reduceCtorEq, Nat.reduceAdd, Nat.reduceBEq, Nat.reduceEqDiff, Option.toList_some, Option.toList_none, List.cons_append, List.nil_append]
    refine sp_callV hz (c_Command_length l G) (ci := 4) (As := [.int (nI j)]) (rest := []) rfl w_Command_61 (by decide) h1 rfl (Nat.le_of_ble_eq_true rfl) d_Command_hasMinus_2 ⟨c, lt, lch, s, sa, la, ws, ce, v, j, rfl, hc, hj, ?_⟩ rfl
    refine sp_run hz _ _ e_Command_hasMinus_5 _ _ _ ?_
    simp only [k_Command_hasMinus_5, E_nil, E_iconst, E_bipush, E_sipush, E_ldc, E_ldc2, E_lconst, E_null, E_iload_n, E_lload_n, E_aload_n, E_istore_n, E_lstore_n, E_astore_n, E_astoreN_n, E_iload, E_lload, E_aload, E_istore, E_lstore, E_astore, E_astoreN, E_ldi, E_ldl, E_lda, E_ldN, E_iinc, E_iadd, E_isub, E_imul, E_iand, E_ior, E_ixor, E_ishl, E_ishr, E_idiv, E_irem, E_ineg, E_ladd, E_lsub, E_land, E_lor, E_lcmp, E_lshl, E_lshr, E_lushr, E_i2l, E_l2i, E_i2c, E_dupI, E_popI, E_dup_x1II, E_dup2II, E_dup_x1IR, E_dup2IR, E_dup_x1IN, E_dup2IN, E_dupR, E_popR, E_dup_x1RI, E_dup2RI, E_dup_x1RR, E_dup2RR, E_dup_x1RN, E_dup2RN, E_dupN, E_popN, E_dup_x1NI, E_dup2NI, E_dup_x1NR, E_dup2NR, E_dup_x1NN, E_dup2NN, E_goto, E_if_eq, E_if_ne, E_if_lt, E_if_ge, E_if_gt, E_if_le, E_ic_eq, E_ic_ne, E_ic_lt, E_ic_ge, E_ic_gt, E_ic_le, E_ifnull, E_ifnullN, E_ifnonnull, E_ifnonnullN, E_get, E_gf, E_xv, E_n0, E_ns, E_putI, E_putR, E_putN, E_pf, E_st0, E_sts, E_iaload, E_caload, E_laload, E_aaload, E_alen, E_iast, E_cast, E_last, E_xI, E_xJ, E_xQ, E_xN, E_lk, E_lkn, E_s1, E_s1h, E_s1I, E_s1R, E_s1N, E_s1L, E_s2, E_s2h, E_s2L, E_s2I, E_s2R, E_s2N, E_a1, E_a0, E_aI, E_aR, E_aN, E_aL, Option.isSome_some, eq_self, true_and, and_true, true_or, or_true, ne_eq, not_false_eq_true, not_true_eq_false, reduceIte, reduceCtorEq, Nat.reduceAdd, Nat.reduceBEq, Nat.reduceEqDiff, Option.toList_some, Option.toList_none, List.cons_append, List.nil_append, h1, cmc]
    refine ⟨fun h => no (decide_eq_false fun q => absurd h (nI_nle q.1 (by omega))) _, fun h => ?_⟩
    have hpos : 0 < wL ws j := Nat.pos_of_ne_zero fun e => h (by rw [e]; exact Int32.le_refl _)
    refine sp_callV hz (c_Command_start l G) (ci := 4) (As := [.int (nI j)]) (rest := [.ref lt]) rfl w_Command_57 (by decide) h1 rfl (Nat.le_of_ble_eq_true rfl) d_Command_hasMinus_14 ⟨c, lt, lch, s, sa, la, ws, ce, v, j, rfl, hc, hj, ?_⟩ rfl
    refine sp_callV hz (c_Text_at l G) (ci := 0) (As := [.int (nI (wS ws j))]) (rest := []) rfl w_Command_49 (by decide) h6.1 rfl (Nat.le_of_ble_eq_true rfl) d_Command_hasMinus_17 ⟨lt, lch, 140, s, wS ws j, rfl, h6, by omega, ?_⟩ rfl
    have hch := h6.ch (wS ws j)
    refine sp_run hz _ _ e_Command_hasMinus_20 _ _ _ ?_
    simp only [k_Command_hasMinus_20, E_nil, E_iconst, E_bipush, E_sipush, E_ldc, E_ldc2, E_lconst, E_null, E_iload_n, E_lload_n, E_aload_n, E_istore_n, E_lstore_n, E_astore_n, E_astoreN_n, E_iload, E_lload, E_aload, E_istore, E_lstore, E_astore, E_astoreN, E_ldi, E_ldl, E_lda, E_ldN, E_iinc, E_iadd, E_isub, E_imul, E_iand, E_ior, E_ixor, E_ishl, E_ishr, E_idiv, E_irem, E_ineg, E_ladd, E_lsub, E_land, E_lor, E_lcmp, E_lshl, E_lshr, E_lushr, E_i2l, E_l2i, E_i2c, E_dupI, E_popI, E_dup_x1II, E_dup2II, E_dup_x1IR, E_dup2IR, E_dup_x1IN, E_dup2IN, E_dupR, E_popR, E_dup_x1RI, E_dup2RI, E_dup_x1RR, E_dup2RR, E_dup_x1RN, E_dup2RN, E_dupN, E_popN, E_dup_x1NI, E_dup2NI, E_dup_x1NR, E_dup2NR, E_dup_x1NN, E_dup2NN, E_goto, E_if_eq, E_if_ne, E_if_lt, E_if_ge, E_if_gt, E_if_le, E_ic_eq, E_ic_ne, E_ic_lt, E_ic_ge, E_ic_gt, E_ic_le, E_ifnull, E_ifnullN, E_ifnonnull, E_ifnonnullN, E_get, E_gf, E_xv, E_n0, E_ns, E_putI, E_putR, E_putN, E_pf, E_st0, E_sts, E_iaload, E_caload, E_laload, E_aaload, E_alen, E_iast, E_cast, E_last, E_xI, E_xJ, E_xQ, E_xN, E_lk, E_lkn, E_s1, E_s1h, E_s1I, E_s1R, E_s1N, E_s1L, E_s2, E_s2h, E_s2L, E_s2I, E_s2R, E_s2N, E_a1, E_a0, E_aI, E_aR, E_aN, E_aL, Option.isSome_some, eq_self, true_and, and_true, true_or, or_true, ne_eq, not_false_eq_true, not_true_eq_false, reduceIte, reduceCtorEq, Nat.reduceAdd, Nat.reduceBEq, Nat.reduceEqDiff, Option.toList_some, Option.toList_none, List.cons_append, List.nil_append]
    refine ⟨fun h => no (decide_eq_false fun q => h (by rw [q.2]; rfl)) _, fun h => ?_⟩
    have h45 : s.getD (wS ws j) 0 = 45 := (nI_eq (by omega) (by decide)).mp h
    rw [show hmin s ws j = true from decide_eq_true ⟨hpos, h45⟩] at hp
    exact sp_zret hz d_Command_hasMinus_30 rfl (Nat.le_refl _) (Nat.le_refl _) hp
