def T_Memory_find (G : sp_G) : sp_T := fun av M Post => ∃ m sa sh W pg os fr Q nn t ch cap s st n, av = [.ref m, .ref t, .int (nI st), .int (nI n)] ∧ mem G M m sa sh W pg os fr Q nn ∧ tx G M t ch cap s ∧ st < 2 ^ 30 ∧ n < 2 ^ 30 ∧ ((∀ i, i < 4 → ∀ c ∈ os i, cK (Q c) ≠ pu_seg s st n) → Post (some .null) M) ∧ ∀ (i k c : Nat), i < 4 → (os i)[k]? = some c → cK (Q c) = pu_seg s st n → Post (some (.ref c)) M
set_option maxHeartbeats 4000000 in
set_option maxRecDepth 100000 in
theorem c_Memory_find (l : Launch) (G : sp_G) : sp_Met l G y_Memory_find b_Memory_find 9 (some (.object "SlabPantry$Chunk")) { frames := 2, locals := 45 } (T_Memory_find G) := by
  refine sp_entry (by decide) (fun av M Post h => ?_) (fun z M av Post hz _ hT => ?_)
  · obtain ⟨m, sa, sh, W, pg, os, fr, Q, nn, t, ch, cap, s, st, n, rfl, -⟩ := h
    exact Nat.le_of_ble_eq_true rfl
  · obtain ⟨m, sa, sh, W, pg, os, fr, Q, nn, t, ch, cap, s, st, n, rfl, hm, ht, hst, hn, p1, p2⟩ := hT
    obtain ⟨a1, a2, a3, a4, a5, a6⟩ := hm
    have chain : ∀ i, i < 4 → ((∀ c ∈ os i, cK (Q c) ≠ pu_seg s st n) → sp_W z G M (sp_Q z G M Post 0 0) 9 0 0 64 [(0, .ref m), (1, .ref t), (2, .int (nI st)), (3, .int (nI n)), (4, .ref sa), (5, .int (nI 4)), (6, .int (nI i))] [] M) →
        ∀ d k, (os i).length - k = d → k ≤ (os i).length → (∀ j c, j < k → (os i)[j]? = some c → cK (Q c) ≠ pu_seg s st n) → sp_W z G M (sp_Q z G M Post 0 0) 9 0 0 35 [(0, .ref m), (1, .ref t), (2, .int (nI st)), (3, .int (nI n)), (4, .ref sa), (5, .int (nI 4)), (6, .int (nI i)), (8, va_rf (os i)[k]?)] [] M := by
      intro i hi kk d
      induction d with
      | zero =>
        intro k hd hk hno
        have hkl : k = (os i).length := by omega
        rw [List.getElem?_eq_none (by omega)]
        refine sp_run hz _ _ e_Memory_find_35 _ _ _ ?_
        simp only [k_Memory_find_35, E_nil, E_iconst, E_bipush, E_sipush, E_ldc, E_ldc2, E_lconst, E_null, E_iload_n, E_lload_n, E_aload_n, E_istore_n, E_lstore_n, E_astore_n, E_astoreN_n, E_iload, E_lload, E_aload, E_istore, E_lstore, E_astore, E_astoreN, E_ldi, E_ldl, E_lda, E_ldN, E_iinc, E_iadd, E_isub, E_imul, E_iand, E_ior, E_ixor, E_ishl, E_ishr, E_idiv, E_irem, E_ineg, E_ladd, E_lsub, E_land, E_lor, E_lcmp, E_lshl, E_lshr, E_lushr, E_i2l, E_l2i, E_i2c, E_dupI, E_popI, E_dup_x1II, E_dup2II, E_dup_x1IR, E_dup2IR, E_dup_x1IN, E_dup2IN, E_dupR, E_popR, E_dup_x1RI, E_dup2RI, E_dup_x1RR, E_dup2RR, E_dup_x1RN, E_dup2RN, E_dupN, E_popN, E_dup_x1NI, E_dup2NI, E_dup_x1NR, E_dup2NR, E_dup_x1NN, E_dup2NN, E_goto, E_if_eq, E_if_ne, E_if_lt, E_if_ge, E_if_gt, E_if_le, E_ic_eq, E_ic_ne, E_ic_lt, E_ic_ge, E_ic_gt, E_ic_le, E_ifnull, E_ifnullN, E_ifnonnull, E_ifnonnullN, E_get, E_gf, E_xv, E_n0, E_ns, E_putI, E_putR, E_putN, E_pf, E_st0, E_sts, E_iaload, E_caload, E_laload, E_aaload, E_alen, E_iast, E_cast, E_last, E_xI, E_xJ, E_xQ, E_xN, E_lk, E_lkn, E_s1, E_s1h, E_s1I, E_s1R, E_s1N, E_s1L, E_s2, E_s2h, E_s2L, E_s2I, E_s2R, E_s2N, E_a1, E_a0, E_aI, E_aR, E_aN, E_aL, Option.isSome_some, eq_self, true_and, and_true, true_or, or_true, ne_eq, not_false_eq_true, not_true_eq_false, reduceIte, reduceCtorEq, Nat.reduceAdd, Nat.reduceBEq, Nat.reduceEqDiff, Option.toList_some, Option.toList_none, List.cons_append, List.nil_append, rf_n]
        refine sp_Lm _ (by simp) (kk (fun c hc => ?_))
        obtain ⟨j, hj⟩ := mem_get hc
        exact hno j c (by have := (List.getElem?_eq_some_iff.mp hj).1; omega) hj
      | succ d ih =>
        intro k hd hk hno
        obtain ⟨c, hc⟩ : ∃ c, (os i)[k]? = some c := ⟨_, List.getElem?_eq_getElem (by omega)⟩
        have hcc := (a4 i hi).1.2.1 k c hc
        have htc := ((a4 i hi).2.2 c (Or.inl (List.mem_of_getElem? hc))).1
        rw [hc]
        refine sp_run hz _ _ e_Memory_find_35 _ _ _ ?_
        simp only [k_Memory_find_35, E_nil, E_iconst, E_bipush, E_sipush, E_ldc, E_ldc2, E_lconst, E_null, E_iload_n, E_lload_n, E_aload_n, E_istore_n, E_lstore_n, E_astore_n, E_astoreN_n, E_iload, E_lload, E_aload, E_istore, E_lstore, E_astore, E_astoreN, E_ldi, E_ldl, E_lda, E_ldN, E_iinc, E_iadd, E_isub, E_imul, E_iand, E_ior, E_ixor, E_ishl, E_ishr, E_idiv, E_irem, E_ineg, E_ladd, E_lsub, E_land, E_lor, E_lcmp, E_lshl, E_lshr, E_lushr, E_i2l, E_l2i, E_i2c, E_dupI, E_popI, E_dup_x1II, E_dup2II, E_dup_x1IR, E_dup2IR, E_dup_x1IN, E_dup2IN, E_dupR, E_popR, E_dup_x1RI, E_dup2RI, E_dup_x1RR, E_dup2RR, E_dup_x1RN, E_dup2RN, E_dupN, E_popN, E_dup_x1NI, E_dup2NI, E_dup_x1NR, E_dup2NR, E_dup_x1NN, E_dup2NN, E_goto, E_if_eq, E_if_ne, E_if_lt, E_if_ge, E_if_gt, E_if_le, E_ic_eq, E_ic_ne, E_ic_lt, E_ic_ge, E_ic_gt, E_ic_le, E_ifnull, E_ifnullN, E_ifnonnull, E_ifnonnullN, E_get, E_gf, E_xv, E_n0, E_ns, E_putI, E_putR, E_putN, E_pf, E_st0, E_sts, E_iaload, E_caload, E_laload, E_aaload, E_alen, E_iast, E_cast, E_last, E_xI, E_xJ, E_xQ, E_xN, E_lk, E_lkn, E_s1, E_s1h, E_s1I, E_s1R, E_s1N, E_s1L, E_s2, E_s2h, E_s2L, E_s2I, E_s2R, E_s2N, E_a1, E_a0, E_aI, E_aR, E_aN, E_aL, Option.isSome_some, eq_self, true_and, and_true, true_or, or_true, ne_eq, not_false_eq_true, not_true_eq_false, reduceIte, reduceCtorEq, Nat.reduceAdd, Nat.reduceBEq, Nat.reduceEqDiff, Option.toList_some, Option.toList_none, List.cons_append, List.nil_append, rf_s]
        refine sp_callV hz (c_Chunk_hasKey l G) (ci := 1) (As := [.ref t, .int (nI st), .int (nI n)]) (rest := []) rfl w_Memory_44 (by decide) hcc rfl (Nat.le_of_ble_eq_true rfl) d_Memory_find_45 ⟨c, sh i, cK (Q c), cV (Q c), _, _, _, _, _, _, _, _, t, ch, cap, s, st, n, rfl, ⟨hcc, htc⟩, ht, hst, hn, ?_⟩ rfl
        refine sp_run hz _ _ e_Memory_find_48 _ _ _ ?_
        by_cases he : cK (Q c) = pu_seg s st n
        · simp only [k_Memory_find_48, E_nil, E_iconst, E_bipush, E_sipush, E_ldc, E_ldc2, E_lconst, E_null, E_iload_n, E_lload_n, E_aload_n, E_istore_n, E_lstore_n, E_astore_n, E_astoreN_n, E_iload, E_lload, E_aload, E_istore, E_lstore, E_astore, E_astoreN, E_ldi, E_ldl, E_lda, E_ldN, E_iinc, E_iadd, E_isub, E_imul, E_iand, E_ior, E_ixor, E_ishl, E_ishr, E_idiv, E_irem, E_ineg, E_ladd, E_lsub, E_land, E_lor, E_lcmp, E_lshl, E_lshr, E_lushr, E_i2l, E_l2i, E_i2c, E_dupI, E_popI, E_dup_x1II, E_dup2II, E_dup_x1IR, E_dup2IR, E_dup_x1IN, E_dup2IN, E_dupR, E_popR, E_dup_x1RI, E_dup2RI, E_dup_x1RR, E_dup2RR, E_dup_x1RN, E_dup2RN, E_dupN, E_popN, E_dup_x1NI, E_dup2NI, E_dup_x1NR, E_dup2NR, E_dup_x1NN, E_dup2NN, E_goto, E_if_eq, E_if_ne, E_if_lt, E_if_ge, E_if_gt, E_if_le, E_ic_eq, E_ic_ne, E_ic_lt, E_ic_ge, E_ic_gt, E_ic_le, E_ifnull, E_ifnullN, E_ifnonnull, E_ifnonnullN, E_get, E_gf, E_xv, E_n0, E_ns, E_putI, E_putR, E_putN, E_pf, E_st0, E_sts, E_iaload, E_caload, E_laload, E_aaload, E_alen, E_iast, E_cast, E_last, E_xI, E_xJ, E_xQ, E_xN, E_lk, E_lkn, E_s1, E_s1h, E_s1I, E_s1R, E_s1N, E_s1L, E_s2, E_s2h, E_s2L, E_s2I, E_s2R, E_s2N, E_a1, E_a0, E_aI, E_aR, E_aN, E_aL, Option.isSome_some, eq_self, true_and, and_true, true_or, or_true, ne_eq, not_false_eq_true, not_true_eq_false, reduceIte, reduceCtorEq, Nat.reduceAdd, Nat.reduceBEq, Nat.reduceEqDiff, Option.toList_some, Option.toList_none, List.cons_append, List.nil_append, decide_eq_true he, b2i]
          exact ⟨fun h => absurd h (by decide), fun _ => sp_aret (r := some c) hz d_Memory_find_53 (Nat.le_refl _) (Nat.le_refl _) (p2 i k c hi hc he)⟩
        · simp only [k_Memory_find_48, E_nil, E_iconst, E_bipush, E_sipush, E_ldc, E_ldc2, E_lconst, E_null, E_iload_n, E_lload_n, E_aload_n, E_istore_n, E_lstore_n, E_astore_n, E_astoreN_n, E_iload, E_lload, E_aload, E_istore, E_lstore, E_astore, E_astoreN, E_ldi, E_ldl, E_lda, E_ldN, E_iinc, E_iadd, E_isub, E_imul, E_iand, E_ior, E_ixor, E_ishl, E_ishr, E_idiv, E_irem, E_ineg, E_ladd, E_lsub, E_land, E_lor, E_lcmp, E_lshl, E_lshr, E_lushr, E_i2l, E_l2i, E_i2c, E_dupI, E_popI, E_dup_x1II, E_dup2II, E_dup_x1IR, E_dup2IR, E_dup_x1IN, E_dup2IN, E_dupR, E_popR, E_dup_x1RI, E_dup2RI, E_dup_x1RR, E_dup2RR, E_dup_x1RN, E_dup2RN, E_dupN, E_popN, E_dup_x1NI, E_dup2NI, E_dup_x1NR, E_dup2NR, E_dup_x1NN, E_dup2NN, E_goto, E_if_eq, E_if_ne, E_if_lt, E_if_ge, E_if_gt, E_if_le, E_ic_eq, E_ic_ne, E_ic_lt, E_ic_ge, E_ic_gt, E_ic_le, E_ifnull, E_ifnullN, E_ifnonnull, E_ifnonnullN, E_get, E_gf, E_xv, E_n0, E_ns, E_putI, E_putR, E_putN, E_pf, E_st0, E_sts, E_iaload, E_caload, E_laload, E_aaload, E_alen, E_iast, E_cast, E_last, E_xI, E_xJ, E_xQ, E_xN, E_lk, E_lkn, E_s1, E_s1h, E_s1I, E_s1R, E_s1N, E_s1L, E_s2, E_s2h, E_s2L, E_s2I, E_s2R, E_s2N, E_a1, E_a0, E_aI, E_aR, E_aN, E_aL, Option.isSome_some, eq_self, true_and, and_true, true_or, or_true, ne_eq, not_false_eq_true, not_true_eq_false, reduceIte, reduceCtorEq, Nat.reduceAdd, Nat.reduceBEq, Nat.reduceEqDiff, Option.toList_some, Option.toList_none, List.cons_append, List.nil_append, decide_eq_false he, b2i, Bool.false_eq_true]
          refine ⟨fun _ => ?_, fun h => h.elim⟩
          have nx := ih (k + 1) (by omega) (by omega) (fun j x hj hx => by
            by_cases e : j = k
            · rw [e, hc] at hx
              cases hx
              exact he
            · exact hno j x (by omega) hx)
          refine sp_run hz _ _ e_Memory_find_54 _ _ _ ?_
          cases hk1 : (os i)[k + 1]? with
          | none =>
            rw [hk1] at hcc nx
            simp only [k_Memory_find_54, E_nil, E_iconst, E_bipush, E_sipush, E_ldc, E_ldc2, E_lconst, E_null, E_iload_n, E_lload_n, E_aload_n, E_istore_n, E_lstore_n, E_astore_n, E_astoreN_n, E_iload, E_lload, E_aload, E_istore, E_lstore, E_astore, E_astoreN, E_ldi, E_ldl, E_lda, E_ldN, E_iinc, E_iadd, E_isub, E_imul, E_iand, E_ior, E_ixor, E_ishl, E_ishr, E_idiv, E_irem, E_ineg, E_ladd, E_lsub, E_land, E_lor, E_lcmp, E_lshl, E_lshr, E_lushr, E_i2l, E_l2i, E_i2c, E_dupI, E_popI, E_dup_x1II, E_dup2II, E_dup_x1IR, E_dup2IR, E_dup_x1IN, E_dup2IN, E_dupR, E_popR, E_dup_x1RI, E_dup2RI, E_dup_x1RR, E_dup2RR, E_dup_x1RN, E_dup2RN, E_dupN, E_popN, E_dup_x1NI, E_dup2NI, E_dup_x1NR, E_dup2NR, E_dup_x1NN, E_dup2NN, E_goto, E_if_eq, E_if_ne, E_if_lt, E_if_ge, E_if_gt, E_if_le, E_ic_eq, E_ic_ne, E_ic_lt, E_ic_ge, E_ic_gt, E_ic_le, E_ifnull, E_ifnullN, E_ifnonnull, E_ifnonnullN, E_get, E_gf, E_xv, E_n0, E_ns, E_putI, E_putR, E_putN, E_pf, E_st0, E_sts, E_iaload, E_caload, E_laload, E_aaload, E_alen, E_iast, E_cast, E_last, E_xI, E_xJ, E_xQ, E_xN, E_lk, E_lkn, E_s1, E_s1h, E_s1I, E_s1R, E_s1N, E_s1L, E_s2, E_s2h, E_s2L, E_s2I, E_s2R, E_s2N, E_a1, E_a0, E_aI, E_aR, E_aN, E_aL, Option.isSome_some, eq_self, true_and, and_true, true_or, or_true, ne_eq, not_false_eq_true, not_true_eq_false, reduceIte, reduceCtorEq, Nat.reduceAdd, Nat.reduceBEq, Nat.reduceEqDiff, Option.toList_some, Option.toList_none, List.cons_append, List.nil_append, hcc, ce, ck_e, rf_n]
            exact sp_Lm _ (by simp [rf_n]) nx
          | some y =>
            rw [hk1] at hcc nx
            simp only [k_Memory_find_54, E_nil, E_iconst, E_bipush, E_sipush, E_ldc, E_ldc2, E_lconst, E_null, E_iload_n, E_lload_n, E_aload_n, E_istore_n, E_lstore_n, E_astore_n, E_astoreN_n, E_iload, E_lload, E_aload, E_istore, E_lstore, E_astore, E_astoreN, E_ldi, E_ldl, E_lda, E_ldN, E_iinc, E_iadd, E_isub, E_imul, E_iand, E_ior, E_ixor, E_ishl, E_ishr, E_idiv, E_irem, E_ineg, E_ladd, E_lsub, E_land, E_lor, E_lcmp, E_lshl, E_lshr, E_lushr, E_i2l, E_l2i, E_i2c, E_dupI, E_popI, E_dup_x1II, E_dup2II, E_dup_x1IR, E_dup2IR, E_dup_x1IN, E_dup2IN, E_dupR, E_popR, E_dup_x1RI, E_dup2RI, E_dup_x1RR, E_dup2RR, E_dup_x1RN, E_dup2RN, E_dupN, E_popN, E_dup_x1NI, E_dup2NI, E_dup_x1NR, E_dup2NR, E_dup_x1NN, E_dup2NN, E_goto, E_if_eq, E_if_ne, E_if_lt, E_if_ge, E_if_gt, E_if_le, E_ic_eq, E_ic_ne, E_ic_lt, E_ic_ge, E_ic_gt, E_ic_le, E_ifnull, E_ifnullN, E_ifnonnull, E_ifnonnullN, E_get, E_gf, E_xv, E_n0, E_ns, E_putI, E_putR, E_putN, E_pf, E_st0, E_sts, E_iaload, E_caload, E_laload, E_aaload, E_alen, E_iast, E_cast, E_last, E_xI, E_xJ, E_xQ, E_xN, E_lk, E_lkn, E_s1, E_s1h, E_s1I, E_s1R, E_s1N, E_s1L, E_s2, E_s2h, E_s2L, E_s2I, E_s2R, E_s2N, E_a1, E_a0, E_aI, E_aR, E_aN, E_aL, Option.isSome_some, eq_self, true_and, and_true, true_or, or_true, ne_eq, not_false_eq_true, not_true_eq_false, reduceIte, reduceCtorEq, Nat.reduceAdd, Nat.reduceBEq, Nat.reduceEqDiff, Option.toList_some, Option.toList_none, List.cons_append, List.nil_append, hcc, ce, ck_e, rf_s]
            exact sp_Lm _ (by simp [rf_s]) nx
    have step : ∀ i, i < 4 → ((∀ c ∈ os i, cK (Q c) ≠ pu_seg s st n) → sp_W z G M (sp_Q z G M Post 0 0) 9 0 0 14 [(0, .ref m), (1, .ref t), (2, .int (nI st)), (3, .int (nI n)), (4, .ref sa), (5, .int (nI 4)), (6, .int (nI (i + 1)))] [] M) → sp_W z G M (sp_Q z G M Post 0 0) 9 0 0 14 [(0, .ref m), (1, .ref t), (2, .int (nI st)), (3, .int (nI n)), (4, .ref sa), (5, .int (nI 4)), (6, .int (nI i))] [] M := by
      intro i hi kk
      have hi31 : i < 2 ^ 31 := by omega
      have nx := chain i hi (fun hno => by
        refine sp_run hz _ _ e_Memory_find_64 _ _ _ ?_
        simp only [k_Memory_find_64, E_nil, E_iconst, E_bipush, E_sipush, E_ldc, E_ldc2, E_lconst, E_null, E_iload_n, E_lload_n, E_aload_n, E_istore_n, E_lstore_n, E_astore_n, E_astoreN_n, E_iload, E_lload, E_aload, E_istore, E_lstore, E_astore, E_astoreN, E_ldi, E_ldl, E_lda, E_ldN, E_iinc, E_iadd, E_isub, E_imul, E_iand, E_ior, E_ixor, E_ishl, E_ishr, E_idiv, E_irem, E_ineg, E_ladd, E_lsub, E_land, E_lor, E_lcmp, E_lshl, E_lshr, E_lushr, E_i2l, E_l2i, E_i2c, E_dupI, E_popI, E_dup_x1II, E_dup2II, E_dup_x1IR, E_dup2IR, E_dup_x1IN, E_dup2IN, E_dupR, E_popR, E_dup_x1RI, E_dup2RI, E_dup_x1RR, E_dup2RR, E_dup_x1RN, E_dup2RN, E_dupN, E_popN, E_dup_x1NI, E_dup2NI, E_dup_x1NR, E_dup2NR, E_dup_x1NN, E_dup2NN, E_goto, E_if_eq, E_if_ne, E_if_lt, E_if_ge, E_if_gt, E_if_le, E_ic_eq, E_ic_ne, E_ic_lt, E_ic_ge, E_ic_gt, E_ic_le, E_ifnull, E_ifnullN, E_ifnonnull, E_ifnonnullN, E_get, E_gf, E_xv, E_n0, E_ns, E_putI, E_putR, E_putN, E_pf, E_st0, E_sts, E_iaload, E_caload, E_laload, E_aaload, E_alen, E_iast, E_cast, E_last, E_xI, E_xJ, E_xQ, E_xN, E_lk, E_lkn, E_s1, E_s1h, E_s1I, E_s1R, E_s1N, E_s1L, E_s2, E_s2h, E_s2L, E_s2I, E_s2R, E_s2N, E_a1, E_a0, E_aI, E_aR, E_aN, E_aL, Option.isSome_some, eq_self, true_and, and_true, true_or, or_true, ne_eq, not_false_eq_true, not_true_eq_false, reduceIte, reduceCtorEq, Nat.reduceAdd, Nat.reduceBEq, Nat.reduceEqDiff, Option.toList_some, Option.toList_none, List.cons_append, List.nil_append, nI_1]
        exact sp_Lm _ (by simp) (kk hno)) (os i).length 0 rfl (Nat.zero_le _) (fun j c h => absurd h (Nat.not_lt_zero _))
      refine sp_run hz _ _ e_Memory_find_14 _ _ _ ?_
      simp only [k_Memory_find_14, E_nil, E_iconst, E_bipush, E_sipush, E_ldc, E_ldc2, E_lconst, E_null, E_iload_n, E_lload_n, E_aload_n, E_istore_n, E_lstore_n, E_astore_n, E_astoreN_n, E_iload, E_lload, E_aload, E_istore, E_lstore, E_astore, E_astoreN, E_ldi, E_ldl, E_lda, E_ldN, E_iinc, E_iadd, E_isub, E_imul, E_iand, E_ior, E_ixor, E_ishl, E_ishr, E_idiv, E_irem, E_ineg, E_ladd, E_lsub, E_land, E_lor, E_lcmp, E_lshl, E_lshr, E_lushr, E_i2l, E_l2i, E_i2c, E_dupI, E_popI, E_dup_x1II, E_dup2II, E_dup_x1IR, E_dup2IR, E_dup_x1IN, E_dup2IN, E_dupR, E_popR, E_dup_x1RI, E_dup2RI, E_dup_x1RR, E_dup2RR, E_dup_x1RN, E_dup2RN, E_dupN, E_popN, E_dup_x1NI, E_dup2NI, E_dup_x1NR, E_dup2NR, E_dup_x1NN, E_dup2NN, E_goto, E_if_eq, E_if_ne, E_if_lt, E_if_ge, E_if_gt, E_if_le, E_ic_eq, E_ic_ne, E_ic_lt, E_ic_ge, E_ic_gt, E_ic_le, E_ifnull, E_ifnullN, E_ifnonnull, E_ifnonnullN, E_get, E_gf, E_xv, E_n0, E_ns, E_putI, E_putR, E_putN, E_pf, E_st0, E_sts, E_iaload, E_caload, E_laload, E_aaload, E_alen, E_iast, E_cast, E_last, E_xI, E_xJ, E_xQ, E_xN, E_lk, E_lkn, E_s1, E_s1h, E_s1I, E_s1R, E_s1N, E_s1L, E_s2, E_s2h, E_s2L, E_s2I, E_s2R, E_s2N, E_a1, E_a0, E_aI, E_aR, E_aN, E_aL, Option.isSome_some, eq_self, true_and, and_true, true_or, or_true, ne_eq, not_false_eq_true, not_true_eq_false, reduceIte, reduceCtorEq, Nat.reduceAdd, Nat.reduceBEq, Nat.reduceEqDiff, Option.toList_some, Option.toList_none, List.cons_append, List.nil_append, a2, nI_clamp hi31, rf_s]
      refine ⟨fun h => absurd ((nI_leI (by omega) (by omega)).mp h) (by omega), fun _ => ⟨nI_in hi (by decide), ?_⟩⟩
      refine sp_callV hz (c_Shelf_front l G) (ci := 2) (As := []) (rest := []) rfl w_Memory_40 (by decide) (a4 i hi).1.1 rfl (Nat.le_of_ble_eq_true rfl) d_Memory_find_30 ⟨sh i, _, _, _, _, _, _, _, rfl, (a4 i hi).1.1, ?_⟩ rfl
      refine sp_run hz _ _ e_Memory_find_33 _ _ _ ?_
      cases hk1 : (os i)[0]? with
      | none =>
        rw [hk1] at nx
        simp only [k_Memory_find_33, E_nil, E_iconst, E_bipush, E_sipush, E_ldc, E_ldc2, E_lconst, E_null, E_iload_n, E_lload_n, E_aload_n, E_istore_n, E_lstore_n, E_astore_n, E_astoreN_n, E_iload, E_lload, E_aload, E_istore, E_lstore, E_astore, E_astoreN, E_ldi, E_ldl, E_lda, E_ldN, E_iinc, E_iadd, E_isub, E_imul, E_iand, E_ior, E_ixor, E_ishl, E_ishr, E_idiv, E_irem, E_ineg, E_ladd, E_lsub, E_land, E_lor, E_lcmp, E_lshl, E_lshr, E_lushr, E_i2l, E_l2i, E_i2c, E_dupI, E_popI, E_dup_x1II, E_dup2II, E_dup_x1IR, E_dup2IR, E_dup_x1IN, E_dup2IN, E_dupR, E_popR, E_dup_x1RI, E_dup2RI, E_dup_x1RR, E_dup2RR, E_dup_x1RN, E_dup2RN, E_dupN, E_popN, E_dup_x1NI, E_dup2NI, E_dup_x1NR, E_dup2NR, E_dup_x1NN, E_dup2NN, E_goto, E_if_eq, E_if_ne, E_if_lt, E_if_ge, E_if_gt, E_if_le, E_ic_eq, E_ic_ne, E_ic_lt, E_ic_ge, E_ic_gt, E_ic_le, E_ifnull, E_ifnullN, E_ifnonnull, E_ifnonnullN, E_get, E_gf, E_xv, E_n0, E_ns, E_putI, E_putR, E_putN, E_pf, E_st0, E_sts, E_iaload, E_caload, E_laload, E_aaload, E_alen, E_iast, E_cast, E_last, E_xI, E_xJ, E_xQ, E_xN, E_lk, E_lkn, E_s1, E_s1h, E_s1I, E_s1R, E_s1N, E_s1L, E_s2, E_s2h, E_s2L, E_s2I, E_s2R, E_s2N, E_a1, E_a0, E_aI, E_aR, E_aN, E_aL, Option.isSome_some, eq_self, true_and, and_true, true_or, or_true, ne_eq, not_false_eq_true, not_true_eq_false, reduceIte, reduceCtorEq, Nat.reduceAdd, Nat.reduceBEq, Nat.reduceEqDiff, Option.toList_some, Option.toList_none, List.cons_append, List.nil_append, rf_n]
        exact sp_Lm _ (by simp [rf_n]) nx
      | some y =>
        rw [hk1] at nx
        simp only [k_Memory_find_33, E_nil, E_iconst, E_bipush, E_sipush, E_ldc, E_ldc2, E_lconst, E_null, E_iload_n, E_lload_n, E_aload_n, E_istore_n, E_lstore_n, E_astore_n, E_astoreN_n, E_iload, E_lload, E_aload, E_istore, E_lstore, E_astore, E_astoreN, E_ldi, E_ldl, E_lda, E_ldN, E_iinc, E_iadd, E_isub, E_imul, E_iand, E_ior, E_ixor, E_ishl, E_ishr, E_idiv, E_irem, E_ineg, E_ladd, E_lsub, E_land, E_lor, E_lcmp, E_lshl, E_lshr, E_lushr, E_i2l, E_l2i, E_i2c, E_dupI, E_popI, E_dup_x1II, E_dup2II, E_dup_x1IR, E_dup2IR, E_dup_x1IN, E_dup2IN, E_dupR, E_popR, E_dup_x1RI, E_dup2RI, E_dup_x1RR, E_dup2RR, E_dup_x1RN, E_dup2RN, E_dupN, E_popN, E_dup_x1NI, E_dup2NI, E_dup_x1NR, E_dup2NR, E_dup_x1NN, E_dup2NN, E_goto, E_if_eq, E_if_ne, E_if_lt, E_if_ge, E_if_gt, E_if_le, E_ic_eq, E_ic_ne, E_ic_lt, E_ic_ge, E_ic_gt, E_ic_le, E_ifnull, E_ifnullN, E_ifnonnull, E_ifnonnullN, E_get, E_gf, E_xv, E_n0, E_ns, E_putI, E_putR, E_putN, E_pf, E_st0, E_sts, E_iaload, E_caload, E_laload, E_aaload, E_alen, E_iast, E_cast, E_last, E_xI, E_xJ, E_xQ, E_xN, E_lk, E_lkn, E_s1, E_s1h, E_s1I, E_s1R, E_s1N, E_s1L, E_s2, E_s2h, E_s2L, E_s2I, E_s2R, E_s2N, E_a1, E_a0, E_aI, E_aR, E_aN, E_aL, Option.isSome_some, eq_self, true_and, and_true, true_or, or_true, ne_eq, not_false_eq_true, not_true_eq_false, reduceIte, reduceCtorEq, Nat.reduceAdd, Nat.reduceBEq, Nat.reduceEqDiff, Option.toList_some, Option.toList_none, List.cons_append, List.nil_append, rf_s]
        exact sp_Lm _ (by simp [rf_s]) nx
    refine sp_run hz _ _ e_Memory_find_0 _ _ _ ?_
    simp only [k_Memory_find_0, E_nil, E_iconst, E_bipush, E_sipush, E_ldc, E_ldc2, E_lconst, E_null, E_iload_n, E_lload_n, E_aload_n, E_istore_n, E_lstore_n, E_astore_n, E_astoreN_n, E_iload, E_lload, E_aload, E_istore, E_lstore, E_astore, E_astoreN, E_ldi, E_ldl, E_lda, E_ldN, E_iinc, E_iadd, E_isub, E_imul, E_iand, E_ior, E_ixor, E_ishl, E_ishr, E_idiv, E_irem, E_ineg, E_ladd, E_lsub, E_land, E_lor, E_lcmp, E_lshl, E_lshr, E_lushr, E_i2l, E_l2i, E_i2c, E_dupI, E_popI, E_dup_x1II, E_dup2II, E_dup_x1IR, E_dup2IR, E_dup_x1IN, E_dup2IN, E_dupR, E_popR, E_dup_x1RI, E_dup2RI, E_dup_x1RR, E_dup2RR, E_dup_x1RN, E_dup2RN, E_dupN, E_popN, E_dup_x1NI, E_dup2NI, E_dup_x1NR, E_dup2NR, E_dup_x1NN, E_dup2NN, E_goto, E_if_eq, E_if_ne, E_if_lt, E_if_ge, E_if_gt, E_if_le, E_ic_eq, E_ic_ne, E_ic_lt, E_ic_ge, E_ic_gt, E_ic_le, E_ifnull, E_ifnullN, E_ifnonnull, E_ifnonnullN, E_get, E_gf, E_xv, E_n0, E_ns, E_putI, E_putR, E_putN, E_pf, E_st0, E_sts, E_iaload, E_caload, E_laload, E_aaload, E_alen, E_iast, E_cast, E_last, E_xI, E_xJ, E_xQ, E_xN, E_lk, E_lkn, E_s1, E_s1h, E_s1I, E_s1R, E_s1N, E_s1L, E_s2, E_s2h, E_s2L, E_s2I, E_s2R, E_s2N, E_a1, E_a0, E_aI, E_aR, E_aN, E_aL, Option.isSome_some, eq_self, true_and, and_true, true_or, or_true, ne_eq, not_false_eq_true, not_true_eq_false, reduceIte, reduceCtorEq, Nat.reduceAdd, Nat.reduceBEq, Nat.reduceEqDiff, Option.toList_some, Option.toList_none, List.cons_append, List.nil_append, a1, a2, mg]
    refine sp_Lm [(0, .ref m), (1, .ref t), (2, .int (nI st)), (3, .int (nI n)), (4, .ref sa), (5, .int (nI 4)), (6, .int (nI 0))] (by simp [nI_0]) ?_
    refine step 0 (by decide) (fun h0 => step 1 (by decide) (fun h1 => step 2 (by decide) (fun h2 => step 3 (by decide) (fun h3 => ?_))))
    refine sp_run hz _ _ e_Memory_find_14 _ _ _ ?_
    simp only [k_Memory_find_14, E_nil, E_iconst, E_bipush, E_sipush, E_ldc, E_ldc2, E_lconst, E_null, E_iload_n, E_lload_n, E_aload_n, E_istore_n, E_lstore_n, E_astore_n, E_astoreN_n, E_iload, E_lload, E_aload, E_istore, E_lstore, E_astore, E_astoreN, E_ldi, E_ldl, E_lda, E_ldN, E_iinc, E_iadd, E_isub, E_imul, E_iand, E_ior, E_ixor, E_ishl, E_ishr, E_idiv, E_irem, E_ineg, E_ladd, E_lsub, E_land, E_lor, E_lcmp, E_lshl, E_lshr, E_lushr, E_i2l, E_l2i, E_i2c, E_dupI, E_popI, E_dup_x1II, E_dup2II, E_dup_x1IR, E_dup2IR, E_dup_x1IN, E_dup2IN, E_dupR, E_popR, E_dup_x1RI, E_dup2RI, E_dup_x1RR, E_dup2RR, E_dup_x1RN, E_dup2RN, E_dupN, E_popN, E_dup_x1NI, E_dup2NI, E_dup_x1NR, E_dup2NR, E_dup_x1NN, E_dup2NN, E_goto, E_if_eq, E_if_ne, E_if_lt, E_if_ge, E_if_gt, E_if_le, E_ic_eq, E_ic_ne, E_ic_lt, E_ic_ge, E_ic_gt, E_ic_le, E_ifnull, E_ifnullN, E_ifnonnull, E_ifnonnullN, E_get, E_gf, E_xv, E_n0, E_ns, E_putI, E_putR, E_putN, E_pf, E_st0, E_sts, E_iaload, E_caload, E_laload, E_aaload, E_alen, E_iast, E_cast, E_last, E_xI, E_xJ, E_xQ, E_xN, E_lk, E_lkn, E_s1, E_s1h, E_s1I, E_s1R, E_s1N, E_s1L, E_s2, E_s2h, E_s2L, E_s2I, E_s2R, E_s2N, E_a1, E_a0, E_aI, E_aR, E_aN, E_aL, Option.isSome_some, eq_self, true_and, and_true, true_or, or_true, ne_eq, not_false_eq_true, not_true_eq_false, reduceIte, reduceCtorEq, Nat.reduceAdd, Nat.reduceBEq, Nat.reduceEqDiff, Option.toList_some, Option.toList_none, List.cons_append, List.nil_append]
    refine ⟨fun _ => ?_, fun h => absurd (Int32.le_refl _) h⟩
    refine sp_run hz _ _ e_Memory_find_70 _ _ _ ?_
    simp only [k_Memory_find_70, E_nil, E_iconst, E_bipush, E_sipush, E_ldc, E_ldc2, E_lconst, E_null, E_iload_n, E_lload_n, E_aload_n, E_istore_n, E_lstore_n, E_astore_n, E_astoreN_n, E_iload, E_lload, E_aload, E_istore, E_lstore, E_astore, E_astoreN, E_ldi, E_ldl, E_lda, E_ldN, E_iinc, E_iadd, E_isub, E_imul, E_iand, E_ior, E_ixor, E_ishl, E_ishr, E_idiv, E_irem, E_ineg, E_ladd, E_lsub, E_land, E_lor, E_lcmp, E_lshl, E_lshr, E_lushr, E_i2l, E_l2i, E_i2c, E_dupI, E_popI, E_dup_x1II, E_dup2II, E_dup_x1IR, E_dup2IR, E_dup_x1IN, E_dup2IN, E_dupR, E_popR, E_dup_x1RI, E_dup2RI, E_dup_x1RR, E_dup2RR, E_dup_x1RN, E_dup2RN, E_dupN, E_popN, E_dup_x1NI, E_dup2NI, E_dup_x1NR, E_dup2NR, E_dup_x1NN, E_dup2NN, E_goto, E_if_eq, E_if_ne, E_if_lt, E_if_ge, E_if_gt, E_if_le, E_ic_eq, E_ic_ne, E_ic_lt, E_ic_ge, E_ic_gt, E_ic_le, E_ifnull, E_ifnullN, E_ifnonnull, E_ifnonnullN, E_get, E_gf, E_xv, E_n0, E_ns, E_putI, E_putR, E_putN, E_pf, E_st0, E_sts, E_iaload, E_caload, E_laload, E_aaload, E_alen, E_iast, E_cast, E_last, E_xI, E_xJ, E_xQ, E_xN, E_lk, E_lkn, E_s1, E_s1h, E_s1I, E_s1R, E_s1N, E_s1L, E_s2, E_s2h, E_s2L, E_s2I, E_s2R, E_s2N, E_a1, E_a0, E_aI, E_aR, E_aN, E_aL, Option.isSome_some, eq_self, true_and, and_true, true_or, or_true, ne_eq, not_false_eq_true, not_true_eq_false, reduceIte, reduceCtorEq, Nat.reduceAdd, Nat.reduceBEq, Nat.reduceEqDiff, Option.toList_some, Option.toList_none, List.cons_append, List.nil_append]
    exact sp_aret (r := none) hz d_Memory_find_71 (Nat.le_refl _) (Nat.le_refl _) (p1 (z4 h0 h1 h2 h3))
/-- a chunk brought to the front -/
theorem mem.front {G : sp_G} {M M' : sp_M} {m sa : Nat} {sh W pg : Nat → Nat} {os fr : Nat → List Nat} {Q : Nat → CR} {nn : NN} (h : mem G M m sa sh W pg os fr Q nn) {i k c : Nat} (hi : i < 4) (hc : (os i)[k]? = some c) (h1 : shf M' (sh i) (zc i) (zp i) (pg i) (fun c => cD (Q c)) (c :: (os i).eraseIdx k) (fr i)) (hf : ∀ q, q ≠ sh i → ni q (os i) → M' q = M q) : mem G M' m sa sh W pg (up os i (c :: (os i).eraseIdx k)) fr Q nn ∧ mfr M M' W := by
  have hS := h.2.2.2.1 i hi
  have hs := sfr_of hS.1 hf
  have := h.set hi (o' := c :: (os i).eraseIdx k) (f' := fr i) ⟨h1, ?_, fun x hx => ?_⟩ hs
  rw [up_same] at this
  · exact ⟨this, hs.mfr hS.1.1⟩
  · rw [List.length_cons, er_len hc]
    have := (List.getElem?_eq_some_iff.mp hc).1
    have := hS.2.1
    omega
  · have hx' : x ∈ os i ∨ x ∈ fr i := by
      rcases hx with hx | hx
      · rcases List.mem_cons.mp hx with e | hx
        · rw [e]
          exact Or.inl (List.mem_of_getElem? hc)
        · exact Or.inl (List.mem_of_mem_eraseIdx hx)
      · exact Or.inr hx
    obtain ⟨t1, t2, t3, t4⟩ := hS.2.2 x hx'
    exact ⟨hs.tx hS.1.1 t1, t2, t3, t4⟩
theorem ce_i {a b : Nat} {d d' : CD} {nw ol nw' ol' : Option Nat} (h : ce a d nw ol = ce b d' nw' ol') : ol = ol' := by
  unfold ce ck_e at h
  simp only [Sum.inr.injEq, Prod.mk.injEq, List.cons.injEq, true_and] at h
  have h1 := h.2.2.2.2.2.1
  cases ol <;> cases ol' <;> simp only [rf_n, rf_s, reduceCtorEq, Value.ref.injEq] at h1 <;> first | rfl | (rw [h1])
/-- a chunk's record anew, its text and its links as they were -/
theorem mem.rec {G : sp_G} {M M' : sp_M} {m sa : Nat} {sh W pg : Nat → Nat} {os fr : Nat → List Nat} {Q : Nat → CR} {nn : NN} (h : mem G M m sa sh W pg os fr Q nn) {i k c fl tk gn : Nat} (hi : i < 4) (hc : (os i)[k]? = some c) (hg : gn < 2 ^ 31) (h1 : M' c = some (ce (sh i) (cD (fl, tk, gn, (Q c).2.2.2)) (pv (os i) k) (os i)[k + 1]?)) (hf : ∀ q, q ≠ c → M' q = M q) : mem G M' m sa sh W pg os fr (up Q c (fl, tk, gn, (Q c).2.2.2)) nn ∧ mfr M M' W := by
  obtain ⟨a1, a2, a3, a4, a5, a6⟩ := h
  have hcc := (a4 i hi).1.2.1 k c hc
  have ob : ∀ {q ci : Nat} {fs : List Value}, M q = some (.inr (ci, fs)) → ¬ ci = 1 → M' q = M q := fun {q ci fs} hq hn => hf q (fun e => by
    rw [e, hcc] at hq
    exact hn (ce_ci (Option.some.inj hq).symm))
  have ar : ∀ {q : Nat} {cA : ClassId} {x : vp_A}, M q = some (.inl (cA, x)) → M' q = M q := fun {q cA x} hq => hf q (fun e => by
    rw [e, hcc] at hq
    cases hq)
  have hoc : ∀ x, (up Q c (fl, tk, gn, (Q c).2.2.2) x).2.2.2 = (Q x).2.2.2 := fun x => by
    by_cases e : x = c
    · rw [e, up_s]
    · rw [up_n _ _ e]
  refine ⟨⟨(ob a1 (by decide)).trans a1, (ar a2).trans a2, a3, fun j hj => ?_, a5, a6⟩, fun q e hq ho _ => ?_⟩
  · obtain ⟨b1, b2, b3⟩ := a4 j hj
    refine ⟨⟨(ob b1.1 (by decide)).trans b1.1, fun k' x hx => ?_, fun k' x hx => ?_, b1.2.2.2⟩, b2, fun x hx => ?_⟩
    · by_cases e : x = c
      · have hxx := b1.2.1 k' x hx
        rw [e] at hx hxx ⊢
        have hij : j = i := a3 j i hj hi (ce_sh (Option.some.inj (hxx.symm.trans hcc)))
        subst hij
        have hkk : k' = k := b1.2.2.2.1 k' k c hx hc
        subst hkk
        dsimp only
        rw [up_s]
        exact h1
      · dsimp only
        rw [hf x e, up_n _ _ e]
        exact b1.2.1 k' x hx
    · obtain ⟨nw, hxx⟩ := b1.2.2.1 k' x hx
      by_cases e : x = c
      · exfalso
        rw [e] at hx hxx
        have hij : j = i := a3 j i hj hi (ce_sh (Option.some.inj (hxx.symm.trans hcc)))
        subst hij
        exact b1.2.2.2.2.2 k c hc k' hx
      · exact ⟨nw, by dsimp only; rw [hf x e, up_n _ _ e]; exact hxx⟩
    · obtain ⟨t1, t2, t3, t4⟩ := b3 x hx
      have hox := hoc x
      refine ⟨?_, ?_, ?_, ?_⟩
      · show tx G M' (up Q c _ x).2.2.2.1 (up Q c _ x).2.2.2.2.1 _ ((up Q c _ x).2.2.2.2.2.1 ++ (up Q c _ x).2.2.2.2.2.2)
        rw [hox]
        refine t1.keep (ob t1.1 (by decide)) ?_
        obtain ⟨-, -, -, -, f, t5, -⟩ := t1
        exact ar t5
      · show W (up Q c _ x).2.2.2.1 = _
        rw [hox]
        exact t2
      · show W (up Q c _ x).2.2.2.2.1 = _
        rw [hox]
        exact t3
      · by_cases e : x = c
        · rw [e, up_s]
          exact hg
        · rw [up_n _ _ e]
          exact t4
  · rw [← hq]
    match e, ho, hq with
    | .inr (ci, fs), ho, hq => exact ob hq ho.1
    | .inl (cA, x), ho, hq => exact ar hq
def T_Memory_touch (G : sp_G) : sp_T := fun av M Post => ∃ m sa sh W pg os fr Q nn i k c x gn, av = [.ref m, .ref c, .int x] ∧ mem G M m sa sh W pg os fr Q nn ∧ i < 4 ∧ (os i)[k]? = some c ∧ gn < 2 ^ 31 ∧ (x = 0 → gn = 2147483647) ∧ (x < 0 → gn = nn.2.1) ∧ (∀ k, x = nI k → 0 < k → k < 2 ^ 31 → gn = nn.2.1 + k) ∧
  (nn.2.1 < gn → ∀ M', mem G M' m sa sh W pg (up os i (c :: (os i).eraseIdx k)) fr (up Q c (cFl (Q c), cTk (Q c), gn, (Q c).2.2.2)) nn → mfr M M' W → Post none M') ∧
  (gn ≤ nn.2.1 → ∀ M', mem G M' m sa sh W pg (up os i ((os i).eraseIdx k)) (up fr i (c :: fr i)) (up Q c (cFl (Q c), cTk (Q c), gn, (Q c).2.2.2)) (nn.1, nn.2.1, nn.2.2.1, nn.2.2.2.1, nn.2.2.2.2 + 1) → mfr M M' W → Post none M')
set_option maxHeartbeats 4000000 in
set_option maxRecDepth 100000 in
theorem c_Memory_touch (l : Launch) (G : sp_G) : sp_Met l G y_Memory_touch b_Memory_touch 3 none { frames := 3, locals := 63 } (T_Memory_touch G) := by
  refine sp_entry (by decide) (fun av M Post h => ?_) (fun z M av Post hz _ hT => ?_)
  · obtain ⟨m, sa, sh, W, pg, os, fr, Q, nn, i, k, c, x, gn, rfl, -⟩ := h
    exact Nat.le_of_ble_eq_true rfl
  · obtain ⟨m, sa, sh, W, pg, os, fr, Q, nn, i, k, c, x, gn, rfl, hm, hi, hc, hgn, g0, gneg, gpos, p1, p2⟩ := hT
    have hlen := hm.len i hi
    have hS := hm.2.2.2.1 i hi
    have hcc := hS.1.2.1 k c hc
    refine sp_run hz _ _ e_Memory_touch_0 _ _ _ ?_
    simp only [k_Memory_touch_0, E_nil, E_iconst, E_bipush, E_sipush, E_ldc, E_ldc2, E_lconst, E_null, E_iload_n, E_lload_n, E_aload_n, E_istore_n, E_lstore_n, E_astore_n, E_astoreN_n, E_iload, E_lload, E_aload, E_istore, E_lstore, E_astore, E_astoreN, E_ldi, E_ldl, E_lda, E_ldN, E_iinc, E_iadd, E_isub, E_imul, E_iand, E_ior, E_ixor, E_ishl, E_ishr, E_idiv, E_irem, E_ineg, E_ladd, E_lsub, E_land, E_lor, E_lcmp, E_lshl, E_lshr, E_lushr, E_i2l, E_l2i, E_i2c, E_dupI, E_popI, E_dup_x1II, E_dup2II, E_dup_x1IR, E_dup2IR, E_dup_x1IN, E_dup2IN, E_dupR, E_popR, E_dup_x1RI, E_dup2RI, E_dup_x1RR, E_dup2RR, E_dup_x1RN, E_dup2RN, E_dupN, E_popN, E_dup_x1NI, E_dup2NI, E_dup_x1NR, E_dup2NR, E_dup_x1NN, E_dup2NN, E_goto, E_if_eq, E_if_ne, E_if_lt, E_if_ge, E_if_gt, E_if_le, E_ic_eq, E_ic_ne, E_ic_lt, E_ic_ge, E_ic_gt, E_ic_le, E_ifnull, E_ifnullN, E_ifnonnull, E_ifnonnullN, E_get, E_gf, E_xv, E_n0, E_ns, E_putI, E_putR, E_putN, E_pf, E_st0, E_sts, E_iaload, E_caload, E_laload, E_aaload, E_alen, E_iast, E_cast, E_last, E_xI, E_xJ, E_xQ, E_xN, E_lk, E_lkn, E_s1, E_s1h, E_s1I, E_s1R, E_s1N, E_s1L, E_s2, E_s2h, E_s2L, E_s2I, E_s2R, E_s2N, E_a1, E_a0, E_aI, E_aR, E_aN, E_aL, Option.isSome_some, eq_self, true_and, and_true, true_or, or_true, ne_eq, not_false_eq_true, not_true_eq_false, reduceIte, reduceCtorEq, Nat.reduceAdd, Nat.reduceBEq, Nat.reduceEqDiff, Option.toList_some, Option.toList_none, List.cons_append, List.nil_append, hcc, ce, ck_e]
    refine sp_callV hz (c_Shelf_bringToFront l G) (ci := 2) (As := [.ref c]) (rest := []) rfl w_Memory_103 (by decide) hS.1.1 rfl (Nat.le_of_ble_eq_true rfl) d_Memory_touch_5 ⟨sh i, c, _, _, _, _, os i, fr i, k, rfl, hS.1, hc, fun M1 f1 f2 => ?_⟩ rfl
    obtain ⟨hm1, fr1⟩ := hm.front hi hc f1 f2
    have tail : sp_W z G M (sp_Q z G M Post 0 0) 3 0 0 14 [(0, .ref m), (1, .ref c), (2, .int x)] [.int (nI gn), .ref c] M1 := by
      have hS1 := hm1.2.2.2.1 i hi
      rw [up_s] at hS1
      have hc1 := hS1.1.2.1 0 c rfl
      have hc1' : M1 c = some (.inr (1, [.ref (sh i), .int (nI (cFl (Q c))), .int (nI (cTk (Q c))), .int (nI (cGn (Q c))), va_rf (pv (c :: (os i).eraseIdx k) 0), va_rf (c :: (os i).eraseIdx k)[0 + 1]?, .ref (cRm (Q c)), .int (nI (cK (Q c)).length)])) := hc1
      refine sp_run hz _ _ e_Memory_touch_14 _ _ _ ?_
      simp only [k_Memory_touch_14, E_nil, E_iconst, E_bipush, E_sipush, E_ldc, E_ldc2, E_lconst, E_null, E_iload_n, E_lload_n, E_aload_n, E_istore_n, E_lstore_n, E_astore_n, E_astoreN_n, E_iload, E_lload, E_aload, E_istore, E_lstore, E_astore, E_astoreN, E_ldi, E_ldl, E_lda, E_ldN, E_iinc, E_iadd, E_isub, E_imul, E_iand, E_ior, E_ixor, E_ishl, E_ishr, E_idiv, E_irem, E_ineg, E_ladd, E_lsub, E_land, E_lor, E_lcmp, E_lshl, E_lshr, E_lushr, E_i2l, E_l2i, E_i2c, E_dupI, E_popI, E_dup_x1II, E_dup2II, E_dup_x1IR, E_dup2IR, E_dup_x1IN, E_dup2IN, E_dupR, E_popR, E_dup_x1RI, E_dup2RI, E_dup_x1RR, E_dup2RR, E_dup_x1RN, E_dup2RN, E_dupN, E_popN, E_dup_x1NI, E_dup2NI, E_dup_x1NR, E_dup2NR, E_dup_x1NN, E_dup2NN, E_goto, E_if_eq, E_if_ne, E_if_lt, E_if_ge, E_if_gt, E_if_le, E_ic_eq, E_ic_ne, E_ic_lt, E_ic_ge, E_ic_gt, E_ic_le, E_ifnull, E_ifnullN, E_ifnonnull, E_ifnonnullN, E_get, E_gf, E_xv, E_n0, E_ns, E_putI, E_putR, E_putN, E_pf, E_st0, E_sts, E_iaload, E_caload, E_laload, E_aaload, E_alen, E_iast, E_cast, E_last, E_xI, E_xJ, E_xQ, E_xN, E_lk, E_lkn, E_s1, E_s1h, E_s1I, E_s1R, E_s1N, E_s1L, E_s2, E_s2h, E_s2L, E_s2I, E_s2R, E_s2N, E_a1, E_a0, E_aI, E_aR, E_aN, E_aL, Option.isSome_some, eq_self, true_and, and_true, true_or, or_true, ne_eq, not_false_eq_true, not_true_eq_false, reduceIte, reduceCtorEq, Nat.reduceAdd, Nat.reduceBEq, Nat.reduceEqDiff, Option.toList_some, Option.toList_none, List.cons_append, List.nil_append, hc1']
      obtain ⟨hm2, fr2⟩ := hm1.rec (fl := cFl (Q c)) (tk := cTk (Q c)) (gn := gn) (k := 0) (M' := sp_u M1 c (ce (sh i) (cD (cFl (Q c), cTk (Q c), gn, (Q c).2.2.2)) (pv (c :: (os i).eraseIdx k) 0) (c :: (os i).eraseIdx k)[0 + 1]?)) hi (by rw [up_s]; rfl) hgn (by rw [sp_u_s, up_s]) (fun q hq => sp_u_n _ _ hq)
      refine sp_callV hz (c_Memory_takeAwayIfGone l G) (ci := 3) (As := [.ref c]) (rest := []) rfl w_Memory_96 (by decide) hm2.1 rfl (Nat.le_of_ble_eq_true rfl) d_Memory_touch_19 ⟨m, sa, sh, W, pg, _, fr, _, nn, i, 0, c, rfl, hm2, hi, by rw [up_s]; rfl, fun hlt => ?_, fun hle M3 hm3 fr3 => ?_⟩ rfl
      · rw [up_s] at hlt
        exact sp_vret hz d_Memory_touch_22 (Nat.le_refl _) (Nat.le_refl _) (p1 hlt _ hm2 (fr1.trans fr2))
      · rw [up_s] at hle
        rw [up_s] at hm3
        have e : up (up os i (c :: (os i).eraseIdx k)) i ((c :: (os i).eraseIdx k).eraseIdx 0) = up os i ((os i).eraseIdx k) := by
          funext j
          by_cases hj : j = i
          · rw [hj, up_s, up_s]; rfl
          · rw [up_n _ _ hj, up_n _ _ hj, up_n _ _ hj]
        rw [e] at hm3
        exact sp_vret hz d_Memory_touch_22 (Nat.le_refl _) (Nat.le_refl _) (p2 hle _ hm3 ((fr1.trans fr2).trans fr3))
    refine sp_run hz _ _ e_Memory_touch_8 _ _ _ ?_
    simp only [k_Memory_touch_8, E_nil, E_iconst, E_bipush, E_sipush, E_ldc, E_ldc2, E_lconst, E_null, E_iload_n, E_lload_n, E_aload_n, E_istore_n, E_lstore_n, E_astore_n, E_astoreN_n, E_iload, E_lload, E_aload, E_istore, E_lstore, E_astore, E_astoreN, E_ldi, E_ldl, E_lda, E_ldN, E_iinc, E_iadd, E_isub, E_imul, E_iand, E_ior, E_ixor, E_ishl, E_ishr, E_idiv, E_irem, E_ineg, E_ladd, E_lsub, E_land, E_lor, E_lcmp, E_lshl, E_lshr, E_lushr, E_i2l, E_l2i, E_i2c, E_dupI, E_popI, E_dup_x1II, E_dup2II, E_dup_x1IR, E_dup2IR, E_dup_x1IN, E_dup2IN, E_dupR, E_popR, E_dup_x1RI, E_dup2RI, E_dup_x1RR, E_dup2RR, E_dup_x1RN, E_dup2RN, E_dupN, E_popN, E_dup_x1NI, E_dup2NI, E_dup_x1NR, E_dup2NR, E_dup_x1NN, E_dup2NN, E_goto, E_if_eq, E_if_ne, E_if_lt, E_if_ge, E_if_gt, E_if_le, E_ic_eq, E_ic_ne, E_ic_lt, E_ic_ge, E_ic_gt, E_ic_le, E_ifnull, E_ifnullN, E_ifnonnull, E_ifnonnullN, E_get, E_gf, E_xv, E_n0, E_ns, E_putI, E_putR, E_putN, E_pf, E_st0, E_sts, E_iaload, E_caload, E_laload, E_aaload, E_alen, E_iast, E_cast, E_last, E_xI, E_xJ, E_xQ, E_xN, E_lk, E_lkn, E_s1, E_s1h, E_s1I, E_s1R, E_s1N, E_s1L, E_s2, E_s2h, E_s2L, E_s2I, E_s2R, E_s2N, E_a1, E_a0, E_aI, E_aR, E_aN, E_aL, Option.isSome_some, eq_self, true_and, and_true, true_or, or_true, ne_eq, not_false_eq_true, not_true_eq_false, reduceIte, reduceCtorEq, Nat.reduceAdd, Nat.reduceBEq, Nat.reduceEqDiff, Option.toList_some, Option.toList_none, List.cons_append, List.nil_append]
    refine sp_callV hz (c_Memory_goneAfter l G) (ci := 3) (As := [.int x]) (rest := [.ref c]) rfl w_Memory_106 (by decide) hm1.1 rfl (Nat.le_of_ble_eq_true rfl) d_Memory_touch_11 ⟨m, sa, nn, x, rfl, hm1.1, fun h => ?_, fun h => ?_, fun j h h2 h3 => ?_⟩ rfl
    · rw [← g0 h]
      exact tail
    · rw [← gneg h]
      exact tail
    · rw [← gpos j h h2 h3]
      exact tail
