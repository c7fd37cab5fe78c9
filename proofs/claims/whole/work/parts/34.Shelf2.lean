def T_Shelf_pages (G : sp_G) : sp_T := fun av M Post => ∃ sh cc cp pg it fr f b, av = [.ref sh] ∧ M sh = some (sg cc cp pg it fr f b) ∧ Post (some (.int (nI pg))) M
set_option maxHeartbeats 4000000 in
set_option maxRecDepth 100000 in
theorem c_Shelf_pages (l : Launch) (G : sp_G) : sp_Met l G y_Shelf_pages b_Shelf_pages 1 (some .int) {} (T_Shelf_pages G) := by
  refine sp_entry (by decide) (fun av M Post h => ?_) (fun z M av Post hz _ hT => ?_)
  · obtain ⟨sh, cc, cp, pg, it, fr, f, b, rfl, -⟩ := h
    exact Nat.le_of_ble_eq_true rfl
  · obtain ⟨sh, cc, cp, pg, it, fr, f, b, rfl, h1, hp⟩ := hT
    refine sp_run hz _ _ e_Shelf_pages_0 _ _ _ ?_
    simp only [k_Shelf_pages_0, E_nil, E_iconst, E_bipush, E_sipush, E_ldc, E_ldc2, E_lconst, E_null, E_iload_n, E_lload_n, E_aload_n, E_istore_n, E_lstore_n, E_astore_n, E_astoreN_n, E_iload, E_lload, E_aload, E_istore, E_lstore, E_astore, E_astoreN, E_ldi, E_ldl, E_lda, E_ldN, E_iinc, E_iadd, E_isub, E_imul, E_iand, E_ior, E_ixor, E_ishl, E_ishr, E_idiv, E_irem, E_ineg, E_ladd, E_lsub, E_land, E_lor, E_lcmp, E_lshl, E_lshr, E_lushr, E_i2l, E_l2i, E_i2c, E_dupI, E_popI, E_dup_x1II, E_dup2II, E_dup_x1IR, E_dup2IR, E_dup_x1IN, E_dup2IN, E_dupR, E_popR, E_dup_x1RI, E_dup2RI, E_dup_x1RR, E_dup2RR, E_dup_x1RN, E_dup2RN, E_dupN, E_popN, E_dup_x1NI, E_dup2NI, E_dup_x1NR, E_dup2NR, E_dup_x1NN, E_dup2NN, E_goto, E_if_eq, E_if_ne, E_if_lt, E_if_ge, E_if_gt, E_if_le, E_ic_eq, E_ic_ne, E_ic_lt, E_ic_ge, E_ic_gt, E_ic_le, E_ifnull, E_ifnullN, E_ifnonnull, E_ifnonnullN, E_get, E_gf, E_xv, E_n0, E_ns, E_putI, E_putR, E_putN, E_pf, E_st0, E_sts, E_iaload, E_caload, E_laload, E_aaload, E_alen, E_iast, E_cast, E_last, E_xI, E_xJ, E_xQ, E_xN, E_lk, E_lkn, E_s1, E_s1h, E_s1I, E_s1R, E_s1N, E_s1L, E_s2, E_s2h, E_s2L, E_s2I, E_s2R, E_s2N, E_a1, E_a0, E_aI, E_aR, E_aN, E_aL, Option.isSome_some, eq_self, true_and, and_true, true_or, or_true, ne_eq, not_false_eq_true, not_true_eq_false, reduceIte, reduceCtorEq, Nat.reduceAdd, Nat.reduceBEq, Nat.reduceEqDiff, Option.toList_some, Option.toList_none, List.cons_append, List.nil_append, h1, sg]
    exact sp_iret hz d_Shelf_pages_4 (Nat.le_refl _) (Nat.le_refl _) hp
def T_Shelf_items (G : sp_G) : sp_T := fun av M Post => ∃ sh cc cp pg it fr f b, av = [.ref sh] ∧ M sh = some (sg cc cp pg it fr f b) ∧ Post (some (.int (nI it))) M
set_option maxHeartbeats 4000000 in
set_option maxRecDepth 100000 in
theorem c_Shelf_items (l : Launch) (G : sp_G) : sp_Met l G y_Shelf_items b_Shelf_items 1 (some .int) {} (T_Shelf_items G) := by
  refine sp_entry (by decide) (fun av M Post h => ?_) (fun z M av Post hz _ hT => ?_)
  · obtain ⟨sh, cc, cp, pg, it, fr, f, b, rfl, -⟩ := h
    exact Nat.le_of_ble_eq_true rfl
  · obtain ⟨sh, cc, cp, pg, it, fr, f, b, rfl, h1, hp⟩ := hT
    refine sp_run hz _ _ e_Shelf_items_0 _ _ _ ?_
    simp only [k_Shelf_items_0, E_nil, E_iconst, E_bipush, E_sipush, E_ldc, E_ldc2, E_lconst, E_null, E_iload_n, E_lload_n, E_aload_n, E_istore_n, E_lstore_n, E_astore_n, E_astoreN_n, E_iload, E_lload, E_aload, E_istore, E_lstore, E_astore, E_astoreN, E_ldi, E_ldl, E_lda, E_ldN, E_iinc, E_iadd, E_isub, E_imul, E_iand, E_ior, E_ixor, E_ishl, E_ishr, E_idiv, E_irem, E_ineg, E_ladd, E_lsub, E_land, E_lor, E_lcmp, E_lshl, E_lshr, E_lushr, E_i2l, E_l2i, E_i2c, E_dupI, E_popI, E_dup_x1II, E_dup2II, E_dup_x1IR, E_dup2IR, E_dup_x1IN, E_dup2IN, E_dupR, E_popR, E_dup_x1RI, E_dup2RI, E_dup_x1RR, E_dup2RR, E_dup_x1RN, E_dup2RN, E_dupN, E_popN, E_dup_x1NI, E_dup2NI, E_dup_x1NR, E_dup2NR, E_dup_x1NN, E_dup2NN, E_goto, E_if_eq, E_if_ne, E_if_lt, E_if_ge, E_if_gt, E_if_le, E_ic_eq, E_ic_ne, E_ic_lt, E_ic_ge, E_ic_gt, E_ic_le, E_ifnull, E_ifnullN, E_ifnonnull, E_ifnonnullN, E_get, E_gf, E_xv, E_n0, E_ns, E_putI, E_putR, E_putN, E_pf, E_st0, E_sts, E_iaload, E_caload, E_laload, E_aaload, E_alen, E_iast, E_cast, E_last, E_xI, E_xJ, E_xQ, E_xN, E_lk, E_lkn, E_s1, E_s1h, E_s1I, E_s1R, E_s1N, E_s1L, E_s2, E_s2h, E_s2L, E_s2I, E_s2R, E_s2N, E_a1, E_a0, E_aI, E_aR, E_aN, E_aL, Option.isSome_some, eq_self, true_and, and_true, true_or, or_true, ne_eq, not_false_eq_true, not_true_eq_false, reduceIte, reduceCtorEq, Nat.reduceAdd, Nat.reduceBEq, Nat.reduceEqDiff, Option.toList_some, Option.toList_none, List.cons_append, List.nil_append, h1, sg]
    exact sp_iret hz d_Shelf_items_4 (Nat.le_refl _) (Nat.le_refl _) hp
def T_Shelf_front (G : sp_G) : sp_T := fun av M Post => ∃ sh cc cp pg it fr f b, av = [.ref sh] ∧ M sh = some (sg cc cp pg it fr f b) ∧ Post (some (va_rf f)) M
set_option maxHeartbeats 4000000 in
set_option maxRecDepth 100000 in
theorem c_Shelf_front (l : Launch) (G : sp_G) : sp_Met l G y_Shelf_front b_Shelf_front 1 (some (.object "SlabPantry$Chunk")) {} (T_Shelf_front G) := by
  refine sp_entry (by decide) (fun av M Post h => ?_) (fun z M av Post hz _ hT => ?_)
  · obtain ⟨sh, cc, cp, pg, it, fr, f, b, rfl, -⟩ := h
    exact Nat.le_of_ble_eq_true rfl
  · obtain ⟨sh, cc, cp, pg, it, fr, f, b, rfl, h1, hp⟩ := hT
    refine sp_run hz _ _ e_Shelf_front_0 _ _ _ ?_
    simp only [k_Shelf_front_0, E_nil, E_iconst, E_bipush, E_sipush, E_ldc, E_ldc2, E_lconst, E_null, E_iload_n, E_lload_n, E_aload_n, E_istore_n, E_lstore_n, E_astore_n, E_astoreN_n, E_iload, E_lload, E_aload, E_istore, E_lstore, E_astore, E_astoreN, E_ldi, E_ldl, E_lda, E_ldN, E_iinc, E_iadd, E_isub, E_imul, E_iand, E_ior, E_ixor, E_ishl, E_ishr, E_idiv, E_irem, E_ineg, E_ladd, E_lsub, E_land, E_lor, E_lcmp, E_lshl, E_lshr, E_lushr, E_i2l, E_l2i, E_i2c, E_dupI, E_popI, E_dup_x1II, E_dup2II, E_dup_x1IR, E_dup2IR, E_dup_x1IN, E_dup2IN, E_dupR, E_popR, E_dup_x1RI, E_dup2RI, E_dup_x1RR, E_dup2RR, E_dup_x1RN, E_dup2RN, E_dupN, E_popN, E_dup_x1NI, E_dup2NI, E_dup_x1NR, E_dup2NR, E_dup_x1NN, E_dup2NN, E_goto, E_if_eq, E_if_ne, E_if_lt, E_if_ge, E_if_gt, E_if_le, E_ic_eq, E_ic_ne, E_ic_lt, E_ic_ge, E_ic_gt, E_ic_le, E_ifnull, E_ifnullN, E_ifnonnull, E_ifnonnullN, E_get, E_gf, E_xv, E_n0, E_ns, E_putI, E_putR, E_putN, E_pf, E_st0, E_sts, E_iaload, E_caload, E_laload, E_aaload, E_alen, E_iast, E_cast, E_last, E_xI, E_xJ, E_xQ, E_xN, E_lk, E_lkn, E_s1, E_s1h, E_s1I, E_s1R, E_s1N, E_s1L, E_s2, E_s2h, E_s2L, E_s2I, E_s2R, E_s2N, E_a1, E_a0, E_aI, E_aR, E_aN, E_aL, Option.isSome_some, eq_self, true_and, and_true, true_or, or_true, ne_eq, not_false_eq_true, not_true_eq_false, reduceIte, reduceCtorEq, Nat.reduceAdd, Nat.reduceBEq, Nat.reduceEqDiff, Option.toList_some, Option.toList_none, List.cons_append, List.nil_append, h1, sg]
    exact sp_aret hz d_Shelf_front_4 (Nat.le_refl _) (Nat.le_refl _) hp
def T_Shelf_back (G : sp_G) : sp_T := fun av M Post => ∃ sh cc cp pg it fr f b, av = [.ref sh] ∧ M sh = some (sg cc cp pg it fr f b) ∧ Post (some (va_rf b)) M
set_option maxHeartbeats 4000000 in
set_option maxRecDepth 100000 in
theorem c_Shelf_back (l : Launch) (G : sp_G) : sp_Met l G y_Shelf_back b_Shelf_back 1 (some (.object "SlabPantry$Chunk")) {} (T_Shelf_back G) := by
  refine sp_entry (by decide) (fun av M Post h => ?_) (fun z M av Post hz _ hT => ?_)
  · obtain ⟨sh, cc, cp, pg, it, fr, f, b, rfl, -⟩ := h
    exact Nat.le_of_ble_eq_true rfl
  · obtain ⟨sh, cc, cp, pg, it, fr, f, b, rfl, h1, hp⟩ := hT
    refine sp_run hz _ _ e_Shelf_back_0 _ _ _ ?_
    simp only [k_Shelf_back_0, E_nil, E_iconst, E_bipush, E_sipush, E_ldc, E_ldc2, E_lconst, E_null, E_iload_n, E_lload_n, E_aload_n, E_istore_n, E_lstore_n, E_astore_n, E_astoreN_n, E_iload, E_lload, E_aload, E_istore, E_lstore, E_astore, E_astoreN, E_ldi, E_ldl, E_lda, E_ldN, E_iinc, E_iadd, E_isub, E_imul, E_iand, E_ior, E_ixor, E_ishl, E_ishr, E_idiv, E_irem, E_ineg, E_ladd, E_lsub, E_land, E_lor, E_lcmp, E_lshl, E_lshr, E_lushr, E_i2l, E_l2i, E_i2c, E_dupI, E_popI, E_dup_x1II, E_dup2II, E_dup_x1IR, E_dup2IR, E_dup_x1IN, E_dup2IN, E_dupR, E_popR, E_dup_x1RI, E_dup2RI, E_dup_x1RR, E_dup2RR, E_dup_x1RN, E_dup2RN, E_dupN, E_popN, E_dup_x1NI, E_dup2NI, E_dup_x1NR, E_dup2NR, E_dup_x1NN, E_dup2NN, E_goto, E_if_eq, E_if_ne, E_if_lt, E_if_ge, E_if_gt, E_if_le, E_ic_eq, E_ic_ne, E_ic_lt, E_ic_ge, E_ic_gt, E_ic_le, E_ifnull, E_ifnullN, E_ifnonnull, E_ifnonnullN, E_get, E_gf, E_xv, E_n0, E_ns, E_putI, E_putR, E_putN, E_pf, E_st0, E_sts, E_iaload, E_caload, E_laload, E_aaload, E_alen, E_iast, E_cast, E_last, E_xI, E_xJ, E_xQ, E_xN, E_lk, E_lkn, E_s1, E_s1h, E_s1I, E_s1R, E_s1N, E_s1L, E_s2, E_s2h, E_s2L, E_s2I, E_s2R, E_s2N, E_a1, E_a0, E_aI, E_aR, E_aN, E_aL, Option.isSome_some, eq_self, true_and, and_true, true_or, or_true, ne_eq, not_false_eq_true, not_true_eq_false, reduceIte, reduceCtorEq, Nat.reduceAdd, Nat.reduceBEq, Nat.reduceEqDiff, Option.toList_some, Option.toList_none, List.cons_append, List.nil_append, h1, sg]
    exact sp_aret hz d_Shelf_back_4 (Nat.le_refl _) (Nat.le_refl _) hp
def T_Shelf_freeChunks (G : sp_G) : sp_T := fun av M Post => ∃ sh cc cp pg it fr f b, av = [.ref sh] ∧ M sh = some (sg cc cp pg it fr f b) ∧ it ≤ pg * cp ∧ Post (some (.int (nI (pg * cp - it)))) M
set_option maxHeartbeats 4000000 in
set_option maxRecDepth 100000 in
theorem c_Shelf_freeChunks (l : Launch) (G : sp_G) : sp_Met l G y_Shelf_freeChunks b_Shelf_freeChunks 1 (some .int) {} (T_Shelf_freeChunks G) := by
  refine sp_entry (by decide) (fun av M Post h => ?_) (fun z M av Post hz _ hT => ?_)
  · obtain ⟨sh, cc, cp, pg, it, fr, f, b, rfl, -⟩ := h
    exact Nat.le_of_ble_eq_true rfl
  · obtain ⟨sh, cc, cp, pg, it, fr, f, b, rfl, h1, h2, hp⟩ := hT
    refine sp_run hz _ _ e_Shelf_freeChunks_0 _ _ _ ?_
    simp only [k_Shelf_freeChunks_0, E_nil, E_iconst, E_bipush, E_sipush, E_ldc, E_ldc2, E_lconst, E_null, E_iload_n, E_lload_n, E_aload_n, E_istore_n, E_lstore_n, E_astore_n, E_astoreN_n, E_iload, E_lload, E_aload, E_istore, E_lstore, E_astore, E_astoreN, E_ldi, E_ldl, E_lda, E_ldN, E_iinc, E_iadd, E_isub, E_imul, E_iand, E_ior, E_ixor, E_ishl, E_ishr, E_idiv, E_irem, E_ineg, E_ladd, E_lsub, E_land, E_lor, E_lcmp, E_lshl, E_lshr, E_lushr, E_i2l, E_l2i, E_i2c, E_dupI, E_popI, E_dup_x1II, E_dup2II, E_dup_x1IR, E_dup2IR, E_dup_x1IN, E_dup2IN, E_dupR, E_popR, E_dup_x1RI, E_dup2RI, E_dup_x1RR, E_dup2RR, E_dup_x1RN, E_dup2RN, E_dupN, E_popN, E_dup_x1NI, E_dup2NI, E_dup_x1NR, E_dup2NR, E_dup_x1NN, E_dup2NN, E_goto, E_if_eq, E_if_ne, E_if_lt, E_if_ge, E_if_gt, E_if_le, E_ic_eq, E_ic_ne, E_ic_lt, E_ic_ge, E_ic_gt, E_ic_le, E_ifnull, E_ifnullN, E_ifnonnull, E_ifnonnullN, E_get, E_gf, E_xv, E_n0, E_ns, E_putI, E_putR, E_putN, E_pf, E_st0, E_sts, E_iaload, E_caload, E_laload, E_aaload, E_alen, E_iast, E_cast, E_last, E_xI, E_xJ, E_xQ, E_xN, E_lk, E_lkn, E_s1, E_s1h, E_s1I, E_s1R, E_s1N, E_s1L, E_s2, E_s2h, E_s2L, E_s2I, E_s2R, E_s2N, E_a1, E_a0, E_aI, E_aR, E_aN, E_aL, Option.isSome_some, eq_self, true_and, and_true, true_or, or_true, ne_eq, not_false_eq_true, not_true_eq_false, reduceIte, reduceCtorEq, Nat.reduceAdd, Nat.reduceBEq, Nat.reduceEqDiff, Option.toList_some, Option.toList_none, List.cons_append, List.nil_append, h1, sg]
    rw [pk_mul, pk_sub h2]
    exact sp_iret hz d_Shelf_freeChunks_14 (Nat.le_refl _) (Nat.le_refl _) hp
def T_Shelf_takes (G : sp_G) : sp_T := fun av M Post => ∃ sh cc cp pg it fr f b n, av = [.ref sh, .int (nI n)] ∧ M sh = some (sg cc cp pg it fr f b) ∧ cc < 1000 ∧ n < 2 ^ 31 ∧ Post (some (.int (b2i (decide (n ≤ cc))))) M
set_option maxHeartbeats 4000000 in
set_option maxRecDepth 100000 in
theorem c_Shelf_takes (l : Launch) (G : sp_G) : sp_Met l G y_Shelf_takes b_Shelf_takes 2 (some .boolean) {} (T_Shelf_takes G) := by
  refine sp_entry (by decide) (fun av M Post h => ?_) (fun z M av Post hz _ hT => ?_)
  · obtain ⟨sh, cc, cp, pg, it, fr, f, b, n, rfl, -⟩ := h
    exact Nat.le_of_ble_eq_true rfl
  · obtain ⟨sh, cc, cp, pg, it, fr, f, b, n, rfl, h1, hcc, hn, hp⟩ := hT
    refine sp_run hz _ _ e_Shelf_takes_0 _ _ _ ?_
    simp only [k_Shelf_takes_0, E_nil, E_iconst, E_bipush, E_sipush, E_ldc, E_ldc2, E_lconst, E_null, E_iload_n, E_lload_n, E_aload_n, E_istore_n, E_lstore_n, E_astore_n, E_astoreN_n, E_iload, E_lload, E_aload, E_istore, E_lstore, E_astore, E_astoreN, E_ldi, E_ldl, E_lda, E_ldN, E_iinc, E_iadd, E_isub, E_imul, E_iand, E_ior, E_ixor, E_ishl, E_ishr, E_idiv, E_irem, E_ineg, E_ladd, E_lsub, E_land, E_lor, E_lcmp, E_lshl, E_lshr, E_lushr, E_i2l, E_l2i, E_i2c, E_dupI, E_popI, E_dup_x1II, E_dup2II, E_dup_x1IR, E_dup2IR, E_dup_x1IN, E_dup2IN, E_dupR, E_popR, E_dup_x1RI, E_dup2RI, E_dup_x1RR, E_dup2RR, E_dup_x1RN, E_dup2RN, E_dupN, E_popN, E_dup_x1NI, E_dup2NI, E_dup_x1NR, E_dup2NR, E_dup_x1NN, E_dup2NN, E_goto, E_if_eq, E_if_ne, E_if_lt, E_if_ge, E_if_gt, E_if_le, E_ic_eq, E_ic_ne, E_ic_lt, E_ic_ge, E_ic_gt, E_ic_le, E_ifnull, E_ifnullN, E_ifnonnull, E_ifnonnullN, E_get, E_gf, E_xv, E_n0, E_ns, E_putI, E_putR, E_putN, E_pf, E_st0, E_sts, E_iaload, E_caload, E_laload, E_aaload, E_alen, E_iast, E_cast, E_last, E_xI, E_xJ, E_xQ, E_xN, E_lk, E_lkn, E_s1, E_s1h, E_s1I, E_s1R, E_s1N, E_s1L, E_s2, E_s2h, E_s2L, E_s2I, E_s2R, E_s2N, E_a1, E_a0, E_aI, E_aR, E_aN, E_aL, Option.isSome_some, eq_self, true_and, and_true, true_or, or_true, ne_eq, not_false_eq_true, not_true_eq_false, reduceIte, reduceCtorEq, Nat.reduceAdd, Nat.reduceBEq, Nat.reduceEqDiff, Option.toList_some, Option.toList_none, List.cons_append, List.nil_append, h1, sg]
    have hlt : nI cc < nI n ↔ cc < n := nI_ltI (by omega) hn
    refine ⟨fun h => ?_, fun h => ?_⟩
    · refine sp_run hz _ _ e_Shelf_takes_12 _ _ _ ?_
      simp only [k_Shelf_takes_12, E_nil, E_iconst, E_bipush, E_sipush, E_ldc, E_ldc2, E_lconst, E_null, E_iload_n, E_lload_n, E_aload_n, E_istore_n, E_lstore_n, E_astore_n, E_astoreN_n, E_iload, E_lload, E_aload, E_istore, E_lstore, E_astore, E_astoreN, E_ldi, E_ldl, E_lda, E_ldN, E_iinc, E_iadd, E_isub, E_imul, E_iand, E_ior, E_ixor, E_ishl, E_ishr, E_idiv, E_irem, E_ineg, E_ladd, E_lsub, E_land, E_lor, E_lcmp, E_lshl, E_lshr, E_lushr, E_i2l, E_l2i, E_i2c, E_dupI, E_popI, E_dup_x1II, E_dup2II, E_dup_x1IR, E_dup2IR, E_dup_x1IN, E_dup2IN, E_dupR, E_popR, E_dup_x1RI, E_dup2RI, E_dup_x1RR, E_dup2RR, E_dup_x1RN, E_dup2RN, E_dupN, E_popN, E_dup_x1NI, E_dup2NI, E_dup_x1NR, E_dup2NR, E_dup_x1NN, E_dup2NN, E_goto, E_if_eq, E_if_ne, E_if_lt, E_if_ge, E_if_gt, E_if_le, E_ic_eq, E_ic_ne, E_ic_lt, E_ic_ge, E_ic_gt, E_ic_le, E_ifnull, E_ifnullN, E_ifnonnull, E_ifnonnullN, E_get, E_gf, E_xv, E_n0, E_ns, E_putI, E_putR, E_putN, E_pf, E_st0, E_sts, E_iaload, E_caload, E_laload, E_aaload, E_alen, E_iast, E_cast, E_last, E_xI, E_xJ, E_xQ, E_xN, E_lk, E_lkn, E_s1, E_s1h, E_s1I, E_s1R, E_s1N, E_s1L, E_s2, E_s2h, E_s2L, E_s2I, E_s2R, E_s2N, E_a1, E_a0, E_aI, E_aR, E_aN, E_aL, Option.isSome_some, eq_self, true_and, and_true, true_or, or_true, ne_eq, not_false_eq_true, not_true_eq_false, reduceIte, reduceCtorEq, Nat.reduceAdd, Nat.reduceBEq, Nat.reduceEqDiff, Option.toList_some, Option.toList_none, List.cons_append, List.nil_append]
      rw [decide_eq_false (by have := hlt.mp h; omega)] at hp
      exact sp_zret hz d_Shelf_takes_13 rfl (Nat.le_refl _) (Nat.le_refl _) hp
    · rw [decide_eq_true (Nat.not_lt.mp fun q => h (hlt.mpr q))] at hp
      exact sp_zret hz d_Shelf_takes_13 rfl (Nat.le_refl _) (Nat.le_refl _) hp
/-- the item at place k -/
def shi (os : List Nat) (k : Int32) : Option Nat := if k < 0 then none else os[k.toNatClampNeg]?
def T_Shelf_itemAt (G : sp_G) : sp_T := fun av M Post => ∃ sh cc cp pg D os fr k, av = [.ref sh, .int k] ∧ shf M sh cc cp pg D os fr ∧ os.length < 1000 ∧ Post (some (va_rf (shi os k))) M
set_option maxHeartbeats 4000000 in
set_option maxRecDepth 100000 in
theorem c_Shelf_itemAt (l : Launch) (G : sp_G) : sp_Met l G y_Shelf_itemAt b_Shelf_itemAt 4 (some (.object "SlabPantry$Chunk")) {} (T_Shelf_itemAt G) := by
  refine sp_entry (by decide) (fun av M Post h => ?_) (fun z M av Post hz _ hT => ?_)
  · obtain ⟨sh, cc, cp, pg, D, os, fr, k, rfl, -⟩ := h
    exact Nat.le_of_ble_eq_true rfl
  · obtain ⟨sh, cc, cp, pg, D, os, fr, k, rfl, ⟨a1, a2, a3, a4, a5, a6⟩, hlen, hp⟩ := hT
    have no : shi os k = none → ∀ L : sp_L, sp_W z G M (sp_Q z G M Post 0 0) 4 0 0 12 L [] M := by
      intro h L
      rw [h] at hp
      refine sp_run hz _ _ e_Shelf_itemAt_12 _ _ _ ?_
      simp only [k_Shelf_itemAt_12, E_nil, E_iconst, E_bipush, E_sipush, E_ldc, E_ldc2, E_lconst, E_null, E_iload_n, E_lload_n, E_aload_n, E_istore_n, E_lstore_n, E_astore_n, E_astoreN_n, E_iload, E_lload, E_aload, E_istore, E_lstore, E_astore, E_astoreN, E_ldi, E_ldl, E_lda, E_ldN, E_iinc, E_iadd, E_isub, E_imul, E_iand, E_ior, E_ixor, E_ishl, E_ishr, E_idiv, E_irem, E_ineg, E_ladd, E_lsub, E_land, E_lor, E_lcmp, E_lshl, E_lshr, E_lushr, E_i2l, E_l2i, E_i2c, E_dupI, E_popI, E_dup_x1II, E_dup2II, E_dup_x1IR, E_dup2IR, E_dup_x1IN, E_dup2IN, E_dupR, E_popR, E_dup_x1RI, E_dup2RI, E_dup_x1RR, E_dup2RR, E_dup_x1RN, E_dup2RN, E_dupN, E_popN, E_dup_x1NI, E_dup2NI, E_dup_x1NR, E_dup2NR, E_dup_x1NN, E_dup2NN, E_goto, E_if_eq, E_if_ne, E_if_lt, E_if_ge, E_if_gt, E_if_le, E_ic_eq, E_ic_ne, E_ic_lt, E_ic_ge, E_ic_gt, E_ic_le, E_ifnull, E_ifnullN, E_ifnonnull, E_ifnonnullN, E_get, E_gf, E_xv, E_n0, E_ns, E_putI, E_putR, E_putN, E_pf, E_st0, E_sts, E_iaload, E_caload, E_laload, E_aaload, E_alen, E_iast, E_cast, E_last, E_xI, E_xJ, E_xQ, E_xN, E_lk, E_lkn, E_s1, E_s1h, E_s1I, E_s1R, E_s1N, E_s1L, E_s2, E_s2h, E_s2L, E_s2I, E_s2R, E_s2N, E_a1, E_a0, E_aI, E_aR, E_aN, E_aL, Option.isSome_some, eq_self, true_and, and_true, true_or, or_true, ne_eq, not_false_eq_true, not_true_eq_false, reduceIte, reduceCtorEq, Nat.reduceAdd, Nat.reduceBEq, Nat.reduceEqDiff, Option.toList_some, Option.toList_none, List.cons_append, List.nil_append]
      exact sp_aret (r := none) hz d_Shelf_itemAt_13 (Nat.le_refl _) (Nat.le_refl _) hp
    refine sp_run hz _ _ e_Shelf_itemAt_0 _ _ _ ?_
    simp only [k_Shelf_itemAt_0, E_nil, E_iconst, E_bipush, E_sipush, E_ldc, E_ldc2, E_lconst, E_null, E_iload_n, E_lload_n, E_aload_n, E_istore_n, E_lstore_n, E_astore_n, E_astoreN_n, E_iload, E_lload, E_aload, E_istore, E_lstore, E_astore, E_astoreN, E_ldi, E_ldl, E_lda, E_ldN, E_iinc, E_iadd, E_isub, E_imul, E_iand, E_ior, E_ixor, E_ishl, E_ishr, E_idiv, E_irem, E_ineg, E_ladd, E_lsub, E_land, E_lor, E_lcmp, E_lshl, E_lshr, E_lushr, E_i2l, E_l2i, E_i2c, E_dupI, E_popI, E_dup_x1II, E_dup2II, E_dup_x1IR, E_dup2IR, E_dup_x1IN, E_dup2IN, E_dupR, E_popR, E_dup_x1RI, E_dup2RI, E_dup_x1RR, E_dup2RR, E_dup_x1RN, E_dup2RN, E_dupN, E_popN, E_dup_x1NI, E_dup2NI, E_dup_x1NR, E_dup2NR, E_dup_x1NN, E_dup2NN, E_goto, E_if_eq, E_if_ne, E_if_lt, E_if_ge, E_if_gt, E_if_le, E_ic_eq, E_ic_ne, E_ic_lt, E_ic_ge, E_ic_gt, E_ic_le, E_ifnull, E_ifnullN, E_ifnonnull, E_ifnonnullN, E_get, E_gf, E_xv, E_n0, E_ns, E_putI, E_putR, E_putN, E_pf, E_st0, E_sts, E_iaload, E_caload, E_laload, E_aaload, E_alen, E_iast, E_cast, E_last, E_xI, E_xJ, E_xQ, E_xN, E_lk, E_lkn, E_s1, E_s1h, E_s1I, E_s1R, E_s1N, E_s1L, E_s2, E_s2h, E_s2L, E_s2I, E_s2R, E_s2N, E_a1, E_a0, E_aI, E_aR, E_aN, E_aL, Option.isSome_some, eq_self, true_and, and_true, true_or, or_true, ne_eq, not_false_eq_true, not_true_eq_false, reduceIte, reduceCtorEq, Nat.reduceAdd, Nat.reduceBEq, Nat.reduceEqDiff, Option.toList_some, Option.toList_none, List.cons_append, List.nil_append, a1, sg]
    refine ⟨fun h => no (if_pos h) _, fun h0 => ⟨fun h => ?_, fun h => no ?_ _⟩⟩
    · obtain ⟨j, hj, rfl⟩ := nI_of h0
      have hjl : j < os.length := (nI_ltI hj (by omega)).mp h
      have e : shi os (nI j) = os[j]? := by
        unfold shi
        rw [if_neg h0, nI_clamp hj]
      rw [e] at hp
      have loop : ∀ n i x, j - i = n → i ≤ j → os[i]? = some x → sp_W z G M (sp_Q z G M Post 0 0) 4 0 0 21 [(3, .int (nI i)), (2, .ref x), (0, .ref sh), (1, .int (nI j))] [] M ∧ sp_W z G M (sp_Q z G M Post 0 0) 4 0 0 21 [(2, .ref x), (3, .int (nI i)), (0, .ref sh), (1, .int (nI j))] [] M := by
        intro n
        induction n with
        | zero =>
          intro i x hn hi hx
          have hi : i = j := by omega
          subst hi
          rw [hx] at hp
          constructor
          all_goals
            refine sp_run hz _ _ e_Shelf_itemAt_21 _ _ _ ?_
            simp only [k_Shelf_itemAt_21, E_nil, E_iconst, E_bipush, E_sipush, E_ldc, E_ldc2, E_lconst, E_null, E_iload_n, E_lload_n, E_aload_n, E_istore_n, E_lstore_n, E_astore_n, E_astoreN_n, E_iload, E_lload, E_aload, E_istore, E_lstore, E_astore, E_astoreN, E_ldi, E_ldl, E_lda, E_ldN, E_iinc, E_iadd, E_isub, E_imul, E_iand, E_ior, E_ixor, E_ishl, E_ishr, E_idiv, E_irem, E_ineg, E_ladd, E_lsub, E_land, E_lor, E_lcmp, E_lshl, E_lshr, E_lushr, E_i2l, E_l2i, E_i2c, E_dupI, E_popI, E_dup_x1II, E_dup2II, E_dup_x1IR, E_dup2IR, E_dup_x1IN, E_dup2IN, E_dupR, E_popR, E_dup_x1RI, E_dup2RI, E_dup_x1RR, E_dup2RR, E_dup_x1RN, E_dup2RN, E_dupN, E_popN, E_dup_x1NI, E_dup2NI, E_dup_x1NR, E_dup2NR, E_dup_x1NN, E_dup2NN, E_goto, E_if_eq, E_if_ne, E_if_lt, E_if_ge, E_if_gt, E_if_le, E_ic_eq, E_ic_ne, E_ic_lt, E_ic_ge, E_ic_gt, E_ic_le, E_ifnull, E_ifnullN, E_ifnonnull, E_ifnonnullN, E_get, E_gf, E_xv, E_n0, E_ns, E_putI, E_putR, E_putN, E_pf, E_st0, E_sts, E_iaload, E_caload, E_laload, E_aaload, E_alen, E_iast, E_cast, E_last, E_xI, E_xJ, E_xQ, E_xN, E_lk, E_lkn, E_s1, E_s1h, E_s1I, E_s1R, E_s1N, E_s1L, E_s2, E_s2h, E_s2L, E_s2I, E_s2R, E_s2N, E_a1, E_a0, E_aI, E_aR, E_aN, E_aL, Option.isSome_some, eq_self, true_and, and_true, true_or, or_true, ne_eq, not_false_eq_true, not_true_eq_false, reduceIte, reduceCtorEq, Nat.reduceAdd, Nat.reduceBEq, Nat.reduceEqDiff, Option.toList_some, Option.toList_none, List.cons_append, List.nil_append]
            refine ⟨fun _ => ?_, fun h => absurd (Int32.le_refl _) h⟩
            refine sp_run hz _ _ e_Shelf_itemAt_41 _ _ _ ?_
            simp only [k_Shelf_itemAt_41, E_nil, E_iconst, E_bipush, E_sipush, E_ldc, E_ldc2, E_lconst, E_null, E_iload_n, E_lload_n, E_aload_n, E_istore_n, E_lstore_n, E_astore_n, E_astoreN_n, E_iload, E_lload, E_aload, E_istore, E_lstore, E_astore, E_astoreN, E_ldi, E_ldl, E_lda, E_ldN, E_iinc, E_iadd, E_isub, E_imul, E_iand, E_ior, E_ixor, E_ishl, E_ishr, E_idiv, E_irem, E_ineg, E_ladd, E_lsub, E_land, E_lor, E_lcmp, E_lshl, E_lshr, E_lushr, E_i2l, E_l2i, E_i2c, E_dupI, E_popI, E_dup_x1II, E_dup2II, E_dup_x1IR, E_dup2IR, E_dup_x1IN, E_dup2IN, E_dupR, E_popR, E_dup_x1RI, E_dup2RI, E_dup_x1RR, E_dup2RR, E_dup_x1RN, E_dup2RN, E_dupN, E_popN, E_dup_x1NI, E_dup2NI, E_dup_x1NR, E_dup2NR, E_dup_x1NN, E_dup2NN, E_goto, E_if_eq, E_if_ne, E_if_lt, E_if_ge, E_if_gt, E_if_le, E_ic_eq, E_ic_ne, E_ic_lt, E_ic_ge, E_ic_gt, E_ic_le, E_ifnull, E_ifnullN, E_ifnonnull, E_ifnonnullN, E_get, E_gf, E_xv, E_n0, E_ns, E_putI, E_putR, E_putN, E_pf, E_st0, E_sts, E_iaload, E_caload, E_laload, E_aaload, E_alen, E_iast, E_cast, E_last, E_xI, E_xJ, E_xQ, E_xN, E_lk, E_lkn, E_s1, E_s1h, E_s1I, E_s1R, E_s1N, E_s1L, E_s2, E_s2h, E_s2L, E_s2I, E_s2R, E_s2N, E_a1, E_a0, E_aI, E_aR, E_aN, E_aL, Option.isSome_some, eq_self, true_and, and_true, true_or, or_true, ne_eq, not_false_eq_true, not_true_eq_false, reduceIte, reduceCtorEq, Nat.reduceAdd, Nat.reduceBEq, Nat.reduceEqDiff, Option.toList_some, Option.toList_none, List.cons_append, List.nil_append]
            exact sp_aret (r := some x) hz d_Shelf_itemAt_42 (Nat.le_refl _) (Nat.le_refl _) hp
        | succ n ih =>
          intro i x hn hi hx
          have hxd := a2 i x hx
          obtain ⟨y, hy⟩ : ∃ y, os[i + 1]? = some y := ⟨_, List.getElem?_eq_getElem (by omega)⟩
          rw [hy] at hxd
          have nx := (ih (i + 1) y (by omega) (by omega) hy).1
          constructor
          all_goals
            refine sp_run hz _ _ e_Shelf_itemAt_21 _ _ _ ?_
            simp only [k_Shelf_itemAt_21, E_nil, E_iconst, E_bipush, E_sipush, E_ldc, E_ldc2, E_lconst, E_null, E_iload_n, E_lload_n, E_aload_n, E_istore_n, E_lstore_n, E_astore_n, E_astoreN_n, E_iload, E_lload, E_aload, E_istore, E_lstore, E_astore, E_astoreN, E_ldi, E_ldl, E_lda, E_ldN, E_iinc, E_iadd, E_isub, E_imul, E_iand, E_ior, E_ixor, E_ishl, E_ishr, E_idiv, E_irem, E_ineg, E_ladd, E_lsub, E_land, E_lor, E_lcmp, E_lshl, E_lshr, E_lushr, E_i2l, E_l2i, E_i2c, E_dupI, E_popI, E_dup_x1II, E_dup2II, E_dup_x1IR, E_dup2IR, E_dup_x1IN, E_dup2IN, E_dupR, E_popR, E_dup_x1RI, E_dup2RI, E_dup_x1RR, E_dup2RR, E_dup_x1RN, E_dup2RN, E_dupN, E_popN, E_dup_x1NI, E_dup2NI, E_dup_x1NR, E_dup2NR, E_dup_x1NN, E_dup2NN, E_goto, E_if_eq, E_if_ne, E_if_lt, E_if_ge, E_if_gt, E_if_le, E_ic_eq, E_ic_ne, E_ic_lt, E_ic_ge, E_ic_gt, E_ic_le, E_ifnull, E_ifnullN, E_ifnonnull, E_ifnonnullN, E_get, E_gf, E_xv, E_n0, E_ns, E_putI, E_putR, E_putN, E_pf, E_st0, E_sts, E_iaload, E_caload, E_laload, E_aaload, E_alen, E_iast, E_cast, E_last, E_xI, E_xJ, E_xQ, E_xN, E_lk, E_lkn, E_s1, E_s1h, E_s1I, E_s1R, E_s1N, E_s1L, E_s2, E_s2h, E_s2L, E_s2I, E_s2R, E_s2N, E_a1, E_a0, E_aI, E_aR, E_aN, E_aL, Option.isSome_some, eq_self, true_and, and_true, true_or, or_true, ne_eq, not_false_eq_true, not_true_eq_false, reduceIte, reduceCtorEq, Nat.reduceAdd, Nat.reduceBEq, Nat.reduceEqDiff, Option.toList_some, Option.toList_none, List.cons_append, List.nil_append, hxd, ce, ck_e, rf_s, nI_1]
            exact ⟨fun h => absurd ((nI_leI (by omega) (by omega)).mp h) (by omega), fun _ => nx⟩
      obtain ⟨x, hx⟩ : ∃ x, os[0]? = some x := ⟨_, List.getElem?_eq_getElem (by omega)⟩
      refine sp_run hz _ _ e_Shelf_itemAt_14 _ _ _ ?_
      rw [hx] at a1
      simp only [k_Shelf_itemAt_14, E_nil, E_iconst, E_bipush, E_sipush, E_ldc, E_ldc2, E_lconst, E_null, E_iload_n, E_lload_n, E_aload_n, E_istore_n, E_lstore_n, E_astore_n, E_astoreN_n, E_iload, E_lload, E_aload, E_istore, E_lstore, E_astore, E_astoreN, E_ldi, E_ldl, E_lda, E_ldN, E_iinc, E_iadd, E_isub, E_imul, E_iand, E_ior, E_ixor, E_ishl, E_ishr, E_idiv, E_irem, E_ineg, E_ladd, E_lsub, E_land, E_lor, E_lcmp, E_lshl, E_lshr, E_lushr, E_i2l, E_l2i, E_i2c, E_dupI, E_popI, E_dup_x1II, E_dup2II, E_dup_x1IR, E_dup2IR, E_dup_x1IN, E_dup2IN, E_dupR, E_popR, E_dup_x1RI, E_dup2RI, E_dup_x1RR, E_dup2RR, E_dup_x1RN, E_dup2RN, E_dupN, E_popN, E_dup_x1NI, E_dup2NI, E_dup_x1NR, E_dup2NR, E_dup_x1NN, E_dup2NN, E_goto, E_if_eq, E_if_ne, E_if_lt, E_if_ge, E_if_gt, E_if_le, E_ic_eq, E_ic_ne, E_ic_lt, E_ic_ge, E_ic_gt, E_ic_le, E_ifnull, E_ifnullN, E_ifnonnull, E_ifnonnullN, E_get, E_gf, E_xv, E_n0, E_ns, E_putI, E_putR, E_putN, E_pf, E_st0, E_sts, E_iaload, E_caload, E_laload, E_aaload, E_alen, E_iast, E_cast, E_last, E_xI, E_xJ, E_xQ, E_xN, E_lk, E_lkn, E_s1, E_s1h, E_s1I, E_s1R, E_s1N, E_s1L, E_s2, E_s2h, E_s2L, E_s2I, E_s2R, E_s2N, E_a1, E_a0, E_aI, E_aR, E_aN, E_aL, Option.isSome_some, eq_self, true_and, and_true, true_or, or_true, ne_eq, not_false_eq_true, not_true_eq_false, reduceIte, reduceCtorEq, Nat.reduceAdd, Nat.reduceBEq, Nat.reduceEqDiff, Option.toList_some, Option.toList_none, List.cons_append, List.nil_append, a1, sg, rf_s]
      exact (loop j 0 x rfl (Nat.zero_le _) hx).1
    · obtain ⟨j, hj, rfl⟩ := nI_of h0
      unfold shi
      rw [if_neg h0, nI_clamp hj]
      exact List.getElem?_eq_none (Nat.not_lt.mp fun q => h ((nI_ltI hj (by omega)).mpr q))
