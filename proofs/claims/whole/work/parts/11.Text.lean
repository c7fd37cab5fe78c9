/-! Text: a row of characters -/
/-- at t a text of room cap, its characters at ch, holds s -/
def tx (G : sp_G) (M : sp_M) (t ch cap : Nat) (s : List Nat) : Prop := M t = some (.inr (0, [.ref ch, .int (nI s.length)])) ∧ s.length ≤ cap ∧ cap < 1000 ∧ (∀ x ∈ s, x < 65536) ∧ ∃ f : Nat → Int32, M ch = some (.inl (G.2.1 0, cap, .inl f)) ∧ ∀ i, i < s.length → f i = nI (s.getD i 0)
theorem tx.ne {G : sp_G} {M : sp_M} {t ch cap : Nat} {s : List Nat} (h : tx G M t ch cap s) : t ≠ ch := by
  intro e
  obtain ⟨h1, -, -, -, f, h5, -⟩ := h
  rw [e, h5] at h1
  cases h1
theorem tx.keep {G : sp_G} {M M' : sp_M} {t ch cap : Nat} {s : List Nat} (h : tx G M t ch cap s) (h1 : M' t = M t) (h2 : M' ch = M ch) : tx G M' t ch cap s := by
  obtain ⟨a1, a2, a3, a4, f, a5, a6⟩ := h
  exact ⟨by rw [h1]; exact a1, a2, a3, a4, f, by rw [h2]; exact a5, a6⟩
theorem tx.ch {G : sp_G} {M : sp_M} {t ch cap : Nat} {s : List Nat} (h : tx G M t ch cap s) (j : Nat) : s.getD j 0 < 65536 := by
  by_cases hj : j < s.length
  · exact h.2.2.2.1 _ (pu_getD hj)
  · rw [pu_getD_out (by omega)]
    decide
/-- nothing but the cells a and b differs -/
def off2 (M M' : sp_M) (a b : Nat) : Prop := ∀ q, q ≠ a → q ≠ b → M' q = M q
def T_Text_length (G : sp_G) : sp_T := fun av M Post => ∃ t ch cap s, av = [.ref t] ∧ tx G M t ch cap s ∧ Post (some (.int (nI s.length))) M
set_option maxHeartbeats 4000000 in
set_option maxRecDepth 100000 in
theorem c_Text_length (l : Launch) (G : sp_G) : sp_Met l G y_Text_length b_Text_length 1 (some .int) {} (T_Text_length G) := by
  refine sp_entry (by decide) (fun av M Post h => ?_) (fun z M av Post hz _ hT => ?_)
  · obtain ⟨t, ch, cap, s, rfl, -⟩ := h
    exact Nat.le_of_ble_eq_true rfl
  · obtain ⟨t, ch, cap, s, rfl, ⟨h1, h2, h3, h4, f, h5, h6⟩, hp⟩ := hT
    refine sp_run hz _ _ e_Text_length_0 _ _ _ ?_
    simp only [k_Text_length_0, E_nil, E_iconst, E_bipush, E_sipush, E_ldc, E_ldc2, E_lconst, E_null, E_iload_n, E_lload_n, E_aload_n, E_istore_n, E_lstore_n, E_astore_n, E_astoreN_n, E_iload, E_lload, E_aload, E_istore, E_lstore, E_astore, E_astoreN, E_ldi, E_ldl, E_lda, E_ldN, E_iinc, E_iadd, E_isub, E_imul, E_iand, E_ior, E_ixor, E_ishl, E_ishr, E_idiv, E_irem, E_ineg, E_ladd, E_lsub, E_land, E_lor, E_lcmp, E_lshl, E_lshr, E_lushr, E_i2l, E_l2i, E_i2c, E_dupI, E_popI, E_dup_x1II, E_dup2II, E_dup_x1IR, E_dup2IR, E_dup_x1IN, E_dup2IN, E_dupR, E_popR, E_dup_x1RI, E_dup2RI, E_dup_x1RR, E_dup2RR, E_dup_x1RN, E_dup2RN, E_dupN, E_popN, E_dup_x1NI, E_dup2NI, E_dup_x1NR, E_dup2NR, E_dup_x1NN, E_dup2NN, E_goto, E_if_eq, E_if_ne, E_if_lt, E_if_ge, E_if_gt, E_if_le, E_ic_eq, E_ic_ne, E_ic_lt, E_ic_ge, E_ic_gt, E_ic_le, E_ifnull, E_ifnullN, E_ifnonnull, E_ifnonnullN, E_get, E_gf, E_xv, E_n0, E_ns, E_putI, E_putR, E_putN, E_pf, E_st0, E_sts, E_iaload, E_caload, E_laload, E_aaload, E_alen, E_iast, E_cast, E_last, E_xI, E_xJ, E_xQ, E_xN, E_lk, E_lkn, E_s1, E_s1h, E_s1I, E_s1R, E_s1N, E_s1L, E_s2, E_s2h, E_s2L, E_s2I, E_s2R, E_s2N, E_a1, E_a0, E_aI, E_aR, E_aN, E_aL, Option.isSome_some, eq_self, true_and, and_true, true_or, or_true, ne_eq, not_false_eq_true, not_true_eq_false, reduceIte, reduceCtorEq, Nat.reduceAdd, Nat.reduceBEq, Nat.reduceEqDiff, Option.toList_some, Option.toList_none, List.cons_append, List.nil_append, h1]
    exact sp_iret hz d_Text_length_4 (Nat.le_refl _) (Nat.le_refl _) hp
def T_Text_at (G : sp_G) : sp_T := fun av M Post => ∃ t ch cap s j, av = [.ref t, .int (nI j)] ∧ tx G M t ch cap s ∧ j < 2 ^ 31 ∧ Post (some (.int (nI (s.getD j 0)))) M
set_option maxHeartbeats 4000000 in
set_option maxRecDepth 100000 in
theorem c_Text_at (l : Launch) (G : sp_G) : sp_Met l G y_Text_at b_Text_at 2 (some .char) {} (T_Text_at G) := by
  refine sp_entry (by decide) (fun av M Post h => ?_) (fun z M av Post hz _ hT => ?_)
  · obtain ⟨t, ch, cap, s, j, rfl, -⟩ := h
    exact Nat.le_of_ble_eq_true rfl
  · obtain ⟨t, ch, cap, s, j, rfl, ⟨h1, h2, h3, h4, f, h5, h6⟩, hj, hp⟩ := hT
    refine sp_run hz _ _ e_Text_at_0 _ _ _ ?_
    have k21 : s.length ≤ j → sp_W z G M (sp_Q z G M Post 0 0) 2 0 0 21 [(0, .ref t), (1, .int (nI j))] [] M := by
      intro hle
      refine sp_run hz _ _ e_Text_at_21 _ _ _ ?_
      simp only [k_Text_at_21, E_nil, E_iconst, E_bipush, E_sipush, E_ldc, E_ldc2, E_lconst, E_null, E_iload_n, E_lload_n, E_aload_n, E_istore_n, E_lstore_n, E_astore_n, E_astoreN_n, E_iload, E_lload, E_aload, E_istore, E_lstore, E_astore, E_astoreN, E_ldi, E_ldl, E_lda, E_ldN, E_iinc, E_iadd, E_isub, E_imul, E_iand, E_ior, E_ixor, E_ishl, E_ishr, E_idiv, E_irem, E_ineg, E_ladd, E_lsub, E_land, E_lor, E_lcmp, E_lshl, E_lshr, E_lushr, E_i2l, E_l2i, E_i2c, E_dupI, E_popI, E_dup_x1II, E_dup2II, E_dup_x1IR, E_dup2IR, E_dup_x1IN, E_dup2IN, E_dupR, E_popR, E_dup_x1RI, E_dup2RI, E_dup_x1RR, E_dup2RR, E_dup_x1RN, E_dup2RN, E_dupN, E_popN, E_dup_x1NI, E_dup2NI, E_dup_x1NR, E_dup2NR, E_dup_x1NN, E_dup2NN, E_goto, E_if_eq, E_if_ne, E_if_lt, E_if_ge, E_if_gt, E_if_le, E_ic_eq, E_ic_ne, E_ic_lt, E_ic_ge, E_ic_gt, E_ic_le, E_ifnull, E_ifnullN, E_ifnonnull, E_ifnonnullN, E_get, E_gf, E_xv, E_n0, E_ns, E_putI, E_putR, E_putN, E_pf, E_st0, E_sts, E_iaload, E_caload, E_laload, E_aaload, E_alen, E_iast, E_cast, E_last, E_xI, E_xJ, E_xQ, E_xN, E_lk, E_lkn, E_s1, E_s1h, E_s1I, E_s1R, E_s1N, E_s1L, E_s2, E_s2h, E_s2L, E_s2I, E_s2R, E_s2N, E_a1, E_a0, E_aI, E_aR, E_aN, E_aL, Option.isSome_some, eq_self, true_and, and_true, true_or, or_true, ne_eq, not_false_eq_true, not_true_eq_false, reduceIte, reduceCtorEq, Nat.reduceAdd, Nat.reduceBEq, Nat.reduceEqDiff, Option.toList_some, Option.toList_none, List.cons_append, List.nil_append]
      rw [pu_getD_out hle, nI_0] at hp
      exact sp_zret hz d_Text_at_22 rfl (Nat.le_refl _) (Nat.le_refl _) hp
    simp only [k_Text_at_0, E_nil, E_iconst, E_bipush, E_sipush, E_ldc, E_ldc2, E_lconst, E_null, E_iload_n, E_lload_n, E_aload_n, E_istore_n, E_lstore_n, E_astore_n, E_astoreN_n, E_iload, E_lload, E_aload, E_istore, E_lstore, E_astore, E_astoreN, E_ldi, E_ldl, E_lda, E_ldN, E_iinc, E_iadd, E_isub, E_imul, E_iand, E_ior, E_ixor, E_ishl, E_ishr, E_idiv, E_irem, E_ineg, E_ladd, E_lsub, E_land, E_lor, E_lcmp, E_lshl, E_lshr, E_lushr, E_i2l, E_l2i, E_i2c, E_dupI, E_popI, E_dup_x1II, E_dup2II, E_dup_x1IR, E_dup2IR, E_dup_x1IN, E_dup2IN, E_dupR, E_popR, E_dup_x1RI, E_dup2RI, E_dup_x1RR, E_dup2RR, E_dup_x1RN, E_dup2RN, E_dupN, E_popN, E_dup_x1NI, E_dup2NI, E_dup_x1NR, E_dup2NR, E_dup_x1NN, E_dup2NN, E_goto, E_if_eq, E_if_ne, E_if_lt, E_if_ge, E_if_gt, E_if_le, E_ic_eq, E_ic_ne, E_ic_lt, E_ic_ge, E_ic_gt, E_ic_le, E_ifnull, E_ifnullN, E_ifnonnull, E_ifnonnullN, E_get, E_gf, E_xv, E_n0, E_ns, E_putI, E_putR, E_putN, E_pf, E_st0, E_sts, E_iaload, E_caload, E_laload, E_aaload, E_alen, E_iast, E_cast, E_last, E_xI, E_xJ, E_xQ, E_xN, E_lk, E_lkn, E_s1, E_s1h, E_s1I, E_s1R, E_s1N, E_s1L, E_s2, E_s2h, E_s2L, E_s2I, E_s2R, E_s2N, E_a1, E_a0, E_aI, E_aR, E_aN, E_aL, Option.isSome_some, eq_self, true_and, and_true, true_or, or_true, ne_eq, not_false_eq_true, not_true_eq_false, reduceIte, reduceCtorEq, Nat.reduceAdd, Nat.reduceBEq, Nat.reduceEqDiff, Option.toList_some, Option.toList_none, List.cons_append, List.nil_append, h1, h5]
    refine ⟨fun h => absurd h (nI_pos hj), fun _ => ⟨fun h => k21 ((nI_leI (by omega) hj).mp h), fun h => ?_⟩⟩
    have hlt : j < s.length := Nat.not_le.mp fun q => h ((nI_leI (by omega) hj).mpr q)
    refine ⟨nI_in (by omega) (by omega), ?_⟩
    rw [nI_clamp hj, h6 j hlt]
    exact sp_zret hz d_Text_at_22 (pk_charN (h4 _ (pu_getD hlt))).1 (Nat.le_refl _) (Nat.le_refl _) hp
def T_Text_clear (G : sp_G) : sp_T := fun av M Post => ∃ t ch cap s, av = [.ref t] ∧ tx G M t ch cap s ∧ ∀ M', tx G M' t ch cap [] → off2 M M' t ch → Post none M'
set_option maxHeartbeats 4000000 in
set_option maxRecDepth 100000 in
theorem c_Text_clear (l : Launch) (G : sp_G) : sp_Met l G y_Text_clear b_Text_clear 1 none {} (T_Text_clear G) := by
  refine sp_entry (by decide) (fun av M Post h => ?_) (fun z M av Post hz _ hT => ?_)
  · obtain ⟨t, ch, cap, s, rfl, -⟩ := h
    exact Nat.le_of_ble_eq_true rfl
  · obtain ⟨t, ch, cap, s, rfl, htx, hp⟩ := hT
    have hne := htx.ne
    obtain ⟨h1, h2, h3, h4, f, h5, h6⟩ := htx
    refine sp_run hz _ _ e_Text_clear_0 _ _ _ ?_
    simp only [k_Text_clear_0, E_nil, E_iconst, E_bipush, E_sipush, E_ldc, E_ldc2, E_lconst, E_null, E_iload_n, E_lload_n, E_aload_n, E_istore_n, E_lstore_n, E_astore_n, E_astoreN_n, E_iload, E_lload, E_aload, E_istore, E_lstore, E_astore, E_astoreN, E_ldi, E_ldl, E_lda, E_ldN, E_iinc, E_iadd, E_isub, E_imul, E_iand, E_ior, E_ixor, E_ishl, E_ishr, E_idiv, E_irem, E_ineg, E_ladd, E_lsub, E_land, E_lor, E_lcmp, E_lshl, E_lshr, E_lushr, E_i2l, E_l2i, E_i2c, E_dupI, E_popI, E_dup_x1II, E_dup2II, E_dup_x1IR, E_dup2IR, E_dup_x1IN, E_dup2IN, E_dupR, E_popR, E_dup_x1RI, E_dup2RI, E_dup_x1RR, E_dup2RR, E_dup_x1RN, E_dup2RN, E_dupN, E_popN, E_dup_x1NI, E_dup2NI, E_dup_x1NR, E_dup2NR, E_dup_x1NN, E_dup2NN, E_goto, E_if_eq, E_if_ne, E_if_lt, E_if_ge, E_if_gt, E_if_le, E_ic_eq, E_ic_ne, E_ic_lt, E_ic_ge, E_ic_gt, E_ic_le, E_ifnull, E_ifnullN, E_ifnonnull, E_ifnonnullN, E_get, E_gf, E_xv, E_n0, E_ns, E_putI, E_putR, E_putN, E_pf, E_st0, E_sts, E_iaload, E_caload, E_laload, E_aaload, E_alen, E_iast, E_cast, E_last, E_xI, E_xJ, E_xQ, E_xN, E_lk, E_lkn, E_s1, E_s1h, E_s1I, E_s1R, E_s1N, E_s1L, E_s2, E_s2h, E_s2L, E_s2I, E_s2R, E_s2N, E_a1, E_a0, E_aI, E_aR, E_aN, E_aL, Option.isSome_some, eq_self, true_and, and_true, true_or, or_true, ne_eq, not_false_eq_true, not_true_eq_false, reduceIte, reduceCtorEq, Nat.reduceAdd, Nat.reduceBEq, Nat.reduceEqDiff, Option.toList_some, Option.toList_none, List.cons_append, List.nil_append, h1]
    refine sp_vret hz d_Text_clear_5 (Nat.le_refl _) (Nat.le_refl _) (hp _ ⟨sp_u_s _ _ _, Nat.zero_le _, h3, (fun x h => by cases h), f, ?_, (fun i h => absurd h (Nat.not_lt_zero i))⟩ (fun q h _ => sp_u_n _ _ h))
    rw [sp_u_n _ _ (Ne.symm hne)]
    exact h5
def T_Text_add (G : sp_G) : sp_T := fun av M Post => ∃ t ch cap s c, av = [.ref t, .int (nI c)] ∧ tx G M t ch cap s ∧ c < 65536 ∧ ∀ M', tx G M' t ch cap (pu_add cap s c) → off2 M M' t ch → Post none M'
set_option maxHeartbeats 4000000 in
set_option maxRecDepth 100000 in
theorem c_Text_add (l : Launch) (G : sp_G) : sp_Met l G y_Text_add b_Text_add 2 none {} (T_Text_add G) := by
  refine sp_entry (by decide) (fun av M Post h => ?_) (fun z M av Post hz _ hT => ?_)
  · obtain ⟨t, ch, cap, s, c, rfl, -⟩ := h
    exact Nat.le_of_ble_eq_true rfl
  · obtain ⟨t, ch, cap, s, c, rfl, htx, hc, hp⟩ := hT
    have hne := htx.ne
    have htx0 := htx
    obtain ⟨h1, h2, h3, h4, f, h5, h6⟩ := htx
    refine sp_run hz _ _ e_Text_add_0 _ _ _ ?_
    simp only [k_Text_add_0, E_nil, E_iconst, E_bipush, E_sipush, E_ldc, E_ldc2, E_lconst, E_null, E_iload_n, E_lload_n, E_aload_n, E_istore_n, E_lstore_n, E_astore_n, E_astoreN_n, E_iload, E_lload, E_aload, E_istore, E_lstore, E_astore, E_astoreN, E_ldi, E_ldl, E_lda, E_ldN, E_iinc, E_iadd, E_isub, E_imul, E_iand, E_ior, E_ixor, E_ishl, E_ishr, E_idiv, E_irem, E_ineg, E_ladd, E_lsub, E_land, E_lor, E_lcmp, E_lshl, E_lshr, E_lushr, E_i2l, E_l2i, E_i2c, E_dupI, E_popI, E_dup_x1II, E_dup2II, E_dup_x1IR, E_dup2IR, E_dup_x1IN, E_dup2IN, E_dupR, E_popR, E_dup_x1RI, E_dup2RI, E_dup_x1RR, E_dup2RR, E_dup_x1RN, E_dup2RN, E_dupN, E_popN, E_dup_x1NI, E_dup2NI, E_dup_x1NR, E_dup2NR, E_dup_x1NN, E_dup2NN, E_goto, E_if_eq, E_if_ne, E_if_lt, E_if_ge, E_if_gt, E_if_le, E_ic_eq, E_ic_ne, E_ic_lt, E_ic_ge, E_ic_gt, E_ic_le, E_ifnull, E_ifnullN, E_ifnonnull, E_ifnonnullN, E_get, E_gf, E_xv, E_n0, E_ns, E_putI, E_putR, E_putN, E_pf, E_st0, E_sts, E_iaload, E_caload, E_laload, E_aaload, E_alen, E_iast, E_cast, E_last, E_xI, E_xJ, E_xQ, E_xN, E_lk, E_lkn, E_s1, E_s1h, E_s1I, E_s1R, E_s1N, E_s1L, E_s2, E_s2h, E_s2L, E_s2I, E_s2R, E_s2N, E_a1, E_a0, E_aI, E_aR, E_aN, E_aL, Option.isSome_some, eq_self, true_and, and_true, true_or, or_true, ne_eq, not_false_eq_true, not_true_eq_false, reduceIte, reduceCtorEq, Nat.reduceAdd, Nat.reduceBEq, Nat.reduceEqDiff, Option.toList_some, Option.toList_none, List.cons_append, List.nil_append, h1, h5, sp_u_s, sp_u_n _ _ hne]
    refine ⟨fun h => ?_, fun h => ?_⟩
    · have hle : cap ≤ s.length := (nI_leI (by omega) (by omega)).mp h
      have e : pu_add cap s c = s := if_neg (by omega)
      rw [e] at hp
      exact sp_vret hz d_Text_add_32 (Nat.le_refl _) (Nat.le_refl _) (hp M htx0 (fun _ _ _ => rfl))
    · have hlt : s.length < cap := Nat.not_le.mp fun q => h ((nI_leI (by omega) (by omega)).mpr q)
      have e : pu_add cap s c = s ++ [c] := if_pos hlt
      rw [e] at hp
      refine ⟨nI_in hlt (by omega), ?_⟩
      rw [nI_clamp (by omega), pu_nar hc, nI_1]
      refine sp_vret hz d_Text_add_32 (Nat.le_refl _) (Nat.le_refl _) (hp _ ⟨?_, ?_, h3, ?_, upd f s.length (nI c), ?_, ?_⟩ ?_)
      · rw [sp_u_s, List.length_append]
        rfl
      · rw [List.length_append]
        exact hlt
      · intro x hx
        rcases List.mem_append.mp hx with hx | hx
        · exact h4 x hx
        · rw [List.mem_singleton.mp hx]
          exact hc
      · rw [sp_u_n _ _ (Ne.symm hne), sp_u_s]
      · intro i hi
        rw [List.length_append] at hi
        have hi : i < s.length + 1 := hi
        by_cases hil : i = s.length
        · subst hil
          rw [pk_us, pu_getD_last]
        · rw [pk_un hil, pu_getD_app (by omega)]
          exact h6 i (by omega)
      · intro q hq1 hq2
        rw [sp_u_n _ _ hq1, sp_u_n _ _ hq2]
