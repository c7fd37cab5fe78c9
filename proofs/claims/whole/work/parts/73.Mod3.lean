/-! The model's words. -/
theorem wsc_last (s : List Nat) : ∀ n, 0 < n → s.getD (n - 1) 0 ≠ 32 → ∃ l' a b, wsc s n = l' ++ [(a, b)] ∧ a + b = n
  | 0, h, _ => absurd h (by decide)
  | n + 1, _, h => by
    have h : ¬ s.getD n 0 = 32 := h
    rw [wsc_s, if_neg h]
    by_cases h2 : n = 0 ∨ s.getD (n - 1) 0 = 32
    · rw [if_pos h2]
      exact ⟨_, n, 1, rfl, rfl⟩
    · rw [if_neg h2]
      obtain ⟨l', a, b, e, hab⟩ := wsc_last s n (by omega) (fun q => h2 (Or.inr q))
      rw [e, bmp_app]
      exact ⟨l', a, b + 1, rfl, by omega⟩
theorem wsc_len (s : List Nat) : ∀ n, 2 * (wsc s n).length ≤ n + 1 ∧ (0 < n → s.getD (n - 1) 0 = 32 → 2 * (wsc s n).length ≤ n)
  | 0 => ⟨by show 0 ≤ 1; decide, fun h => absurd h (by decide)⟩
  | n + 1 => by
    obtain ⟨i1, i2⟩ := wsc_len s n
    rw [wsc_s]
    refine ⟨?_, fun _ h => ?_⟩
    · split
      · omega
      · split
        · rename_i h1 h2
          rw [List.length_append, List.length_singleton]
          rcases h2 with h2 | h2
          · subst h2
            show 2 * (0 + 1) ≤ 2
            decide
          · by_cases h0 : n = 0
            · subst h0
              show 2 * (0 + 1) ≤ 2
              decide
            · have := i2 (by omega) h2
              omega
        · rw [bmp_len]
          omega
    · have h : s.getD n 0 = 32 := h
      rw [if_pos h]
      exact i1
theorem i_s1 (n : Nat) : nI (n + 1) - 1 = nI n := pk_sub (b := 1) (by omega)
def T_Mod_findWords (G : sp_G) : sp_T := fun av M Post => ∃ B s a R pg ws fr V, av = [.ref (B 0)] ∧ rS G M B s a R pg ws fr V ∧ ∀ M', rS G M' B s a R pg (wsc s (pu_brk s)) fr (up (up V 21 (wsc s (pu_brk s)).length) 24 (pu_brk s)) → rfr B M M' → Post none M'
set_option maxHeartbeats 4000000 in
set_option maxRecDepth 100000 in
theorem c_Mod_findWords (l : Launch) (G : sp_G) : sp_Met l G y_Mod_findWords b_Mod_findWords 2 none {} (T_Mod_findWords G) := by
  refine sp_entry (by decide) (fun av M Post h => ?_) (fun z M av Post hz _ hT => ?_)
  · obtain ⟨B, s, a, R, pg, ws, fr, V, rfl, -⟩ := h
    exact Nat.le_of_ble_eq_true rfl
  · obtain ⟨B, s, a, R, pg, ws, fr, V, rfl, hS, hp⟩ := hT
    have loop : ∀ n i (V1 : Nat → Nat) M1 (L : sp_L), (∀ q ∈ [(0, .ref (B 0))], q ∈ L) → s.length - i = n → i ≤ s.length → pu_brk s = i + pu_brk (s.drop i) → V1 = up (up V 21 (wsc s i).length) 24 i → rS G M1 B s a R pg (wsc s i) fr V1 → rfr B M M1 → sp_W z G M (sp_Q z G M Post 0 0) 2 0 0 10 L [] M1 := by
      intro n
      induction n with
      | zero =>
        intro i V1 M1 L hL hn hi hb eV hS1 hf
        refine sp_Lm _ hL ?_
        have ei : i = s.length := by omega
        have v24 : V1 24 = i := by rw [eV]; exact up_s _ _ _
        have hbl := hS1.bl
        have v1 : V1 1 = s.length := hbl.1.1
        refine sp_run hz _ _ e_Mod_findWords_10 _ _ _ ?_
        simp only [k_Mod_findWords_10, E_nil, E_iconst, E_bipush, E_sipush, E_ldc, E_ldc2, E_lconst, E_null, E_iload_n, E_lload_n, E_aload_n, E_istore_n, E_lstore_n, E_astore_n, E_astoreN_n, E_iload, E_lload, E_aload, E_istore, E_lstore, E_astore, E_astoreN, E_ldi, E_ldl, E_lda, E_ldN, E_iinc, E_iadd, E_isub, E_imul, E_iand, E_ior, E_ixor, E_ishl, E_ishr, E_idiv, E_irem, E_ineg, E_ladd, E_lsub, E_land, E_lor, E_lcmp, E_lshl, E_lshr, E_lushr, E_i2l, E_l2i, E_i2c, E_dupI, E_popI, E_dup_x1II, E_dup2II, E_dup_x1IR, E_dup2IR, E_dup_x1IN, E_dup2IN, E_dupR, E_popR, E_dup_x1RI, E_dup2RI, E_dup_x1RR, E_dup2RR, E_dup_x1RN, E_dup2RN, E_dupN, E_popN, E_dup_x1NI, E_dup2NI, E_dup_x1NR, E_dup2NR, E_dup_x1NN, E_dup2NN, E_goto, E_if_eq, E_if_ne, E_if_lt, E_if_ge, E_if_gt, E_if_le, E_ic_eq, E_ic_ne, E_ic_lt, E_ic_ge, E_ic_gt, E_ic_le, E_ifnull, E_ifnullN, E_ifnonnull, E_ifnonnullN, E_get, E_gf, E_xv, E_n0, E_ns, E_putI, E_putR, E_putN, E_pf, E_st0, E_sts, E_iaload, E_caload, E_laload, E_aaload, E_alen, E_iast, E_cast, E_last, E_xI, E_xJ, E_xQ, E_xN, E_lk, E_lkn, E_s1, E_s1h, E_s1I, E_s1R, E_s1N, E_s1L, E_s2, E_s2h, E_s2L, E_s2I, E_s2R, E_s2N, E_a1, E_a0, E_aI, E_aR, E_aN, E_aL, Option.isSome_some, eq_self, true_and, and_true, true_or, or_true, ne_eq, not_false_eq_true, not_true_eq_false, reduceIte, reduceCtorEq, Nat.reduceAdd, Nat.reduceBEq, Nat.reduceEqDiff, Option.toList_some, Option.toList_none, List.cons_append, List.nil_append, hS1.o, rn_24, rn_1, v24, v1]
        refine ⟨fun _ => ?_, fun h => absurd (by rw [ei]; exact Int32.le_refl _) h⟩
        have e : pu_brk s = i := by
          rw [hb, ei, List.drop_length]
          rfl
        rw [← e] at hS1 eV
        rw [eV] at hS1
        exact sp_vret hz d_Mod_findWords_149 (Nat.le_refl _) (Nat.le_refl _) (hp M1 hS1 hf)
      | succ n ih =>
        intro i V1 M1 L hL hn hi hb eV hS1 hf
        refine sp_Lm _ hL ?_
        have hlt : i < s.length := by omega
        have hSk := hS1
        obtain ⟨F, K, h0, ⟨l1, l3, l5, l21, l25⟩, ⟨t2, t4, t26, tw, ti, tp⟩, ⟨b1, b2, b3, b4, b5⟩, hch, hr⟩ := hS1
        have v24 : V1 24 = i := by rw [eV]; exact up_s _ _ _
        have h2 : M1 (B 2) = some (.inl (G.2.1 0, 140, .inl (F 2))) := h0.a 2 rfl
        have h22 : M1 (B 22) = some (.inl (G.2.1 1, 72, .inl (F 22))) := h0.a 22 rfl
        have h23 : M1 (B 23) = some (.inl (G.2.1 1, 72, .inl (F 23))) := h0.a 23 rfl
        have hin : vp_in (nI i) 140 := nI_in (by omega) (by omega)
        have hcl : (nI i).toNatClampNeg = i := nI_clamp (by omega)
        have hc2 : F 2 i = nI (s.getD i 0) := t2 i hlt
        have hcs : pu_ischar (s.getD i 0) = true := hch _ (pu_getD hlt)
        have hcb : s.getD i 0 < 127 := by
          unfold pu_ischar at hcs
          simp only [Bool.or_eq_true, Bool.and_eq_true, decide_eq_true_eq] at hcs
          omega
        have hwl := (wsc_len s i).1
        have l21' : V1 21 = (wsc s i).length := l21
        have n0_22 := h0.ne 0 22 rfl rfl (by decide)
        have n2_0 := h0.ne 2 0 rfl rfl (by decide)
        have n2_22 := h0.ne 2 22 rfl rfl (by decide)
        have n23_0 := h0.ne 23 0 rfl rfl (by decide)
        have n23_22 := h0.ne 23 22 rfl rfl (by decide)
        have n0_23 := h0.ne 0 23 rfl rfl (by decide)
        rw [pu_drop hlt, pu_brk_c] at hb
        -- the step's end
        have next : ∀ M2 (V2 : Nat → Nat) (L : sp_L), (∀ q ∈ [(0, .ref (B 0))], q ∈ L) → s.getD i 0 ≠ 10 → V2 = up (up V 21 (wsc s (i + 1)).length) 24 i → rS G M2 B s a R pg (wsc s (i + 1)) fr V2 → rfr B M M2 → sp_W z G M (sp_Q z G M Post 0 0) 2 0 0 136 L [] M2 := by
          intro M2 V2 L hL h10 eV2 hS2 hf2
          refine sp_Lm _ hL ?_
          have v24' : V2 24 = i := by rw [eV2]; exact up_s _ _ _
          rw [if_neg h10] at hb
          refine sp_run hz _ _ e_Mod_findWords_136 _ _ _ ?_
          simp only [k_Mod_findWords_136, E_nil, E_iconst, E_bipush, E_sipush, E_ldc, E_ldc2, E_lconst, E_null, E_iload_n, E_lload_n, E_aload_n, E_istore_n, E_lstore_n, E_astore_n, E_astoreN_n, E_iload, E_lload, E_aload, E_istore, E_lstore, E_astore, E_astoreN, E_ldi, E_ldl, E_lda, E_ldN, E_iinc, E_iadd, E_isub, E_imul, E_iand, E_ior, E_ixor, E_ishl, E_ishr, E_idiv, E_irem, E_ineg, E_ladd, E_lsub, E_land, E_lor, E_lcmp, E_lshl, E_lshr, E_lushr, E_i2l, E_l2i, E_i2c, E_dupI, E_popI, E_dup_x1II, E_dup2II, E_dup_x1IR, E_dup2IR, E_dup_x1IN, E_dup2IN, E_dupR, E_popR, E_dup_x1RI, E_dup2RI, E_dup_x1RR, E_dup2RR, E_dup_x1RN, E_dup2RN, E_dupN, E_popN, E_dup_x1NI, E_dup2NI, E_dup_x1NR, E_dup2NR, E_dup_x1NN, E_dup2NN, E_goto, E_if_eq, E_if_ne, E_if_lt, E_if_ge, E_if_gt, E_if_le, E_ic_eq, E_ic_ne, E_ic_lt, E_ic_ge, E_ic_gt, E_ic_le, E_ifnull, E_ifnullN, E_ifnonnull, E_ifnonnullN, E_get, E_gf, E_xv, E_n0, E_ns, E_putI, E_putR, E_putN, E_pf, E_st0, E_sts, E_iaload, E_caload, E_laload, E_aaload, E_alen, E_iast, E_cast, E_last, E_xI, E_xJ, E_xQ, E_xN, E_lk, E_lkn, E_s1, E_s1h, E_s1I, E_s1R, E_s1N, E_s1L, E_s2, E_s2h, E_s2L, E_s2I, E_s2R, E_s2N, E_a1, E_a0, E_aI, E_aR, E_aN, E_aL, Option.isSome_some, eq_self, true_and, and_true, true_or, or_true, ne_eq, not_false_eq_true, not_true_eq_false, reduceIte, reduceCtorEq, Nat.reduceAdd, Nat.reduceBEq, Nat.reduceEqDiff, Option.toList_some, Option.toList_none, List.cons_append, List.nil_append, hS2.o, rn_24, v24', nI_1, rs_24]
          exact ih (i + 1) (up V2 24 (i + 1)) _ _ (by simp) (by omega) (by omega) (by omega) (by rw [eV2, up_up]) (hS2.v (up V2 24 (i + 1)) rfl rfl rfl rfl rfl) (hf2.u (j := 0) rfl)
        -- a character of a word, words' rows as they are behind 'begins'
        have stay : s.getD i 0 = 32 → s.getD i 0 ≠ 10 → ∀ (L : sp_L), (∀ q ∈ [(0, .ref (B 0))], q ∈ L) → sp_W z G M (sp_Q z G M Post 0 0) 2 0 0 76 L [] M1 := by
          intro h32 h10 L hL
          refine sp_Lm _ hL ?_
          refine sp_run hz _ _ e_Mod_findWords_76 _ _ _ ?_
          simp only [k_Mod_findWords_76, E_nil, E_iconst, E_bipush, E_sipush, E_ldc, E_ldc2, E_lconst, E_null, E_iload_n, E_lload_n, E_aload_n, E_istore_n, E_lstore_n, E_astore_n, E_astoreN_n, E_iload, E_lload, E_aload, E_istore, E_lstore, E_astore, E_astoreN, E_ldi, E_ldl, E_lda, E_ldN, E_iinc, E_iadd, E_isub, E_imul, E_iand, E_ior, E_ixor, E_ishl, E_ishr, E_idiv, E_irem, E_ineg, E_ladd, E_lsub, E_land, E_lor, E_lcmp, E_lshl, E_lshr, E_lushr, E_i2l, E_l2i, E_i2c, E_dupI, E_popI, E_dup_x1II, E_dup2II, E_dup_x1IR, E_dup2IR, E_dup_x1IN, E_dup2IN, E_dupR, E_popR, E_dup_x1RI, E_dup2RI, E_dup_x1RR, E_dup2RR, E_dup_x1RN, E_dup2RN, E_dupN, E_popN, E_dup_x1NI, E_dup2NI, E_dup_x1NR, E_dup2NR, E_dup_x1NN, E_dup2NN, E_goto, E_if_eq, E_if_ne, E_if_lt, E_if_ge, E_if_gt, E_if_le, E_ic_eq, E_ic_ne, E_ic_lt, E_ic_ge, E_ic_gt, E_ic_le, E_ifnull, E_ifnullN, E_ifnonnull, E_ifnonnullN, E_get, E_gf, E_xv, E_n0, E_ns, E_putI, E_putR, E_putN, E_pf, E_st0, E_sts, E_iaload, E_caload, E_laload, E_aaload, E_alen, E_iast, E_cast, E_last, E_xI, E_xJ, E_xQ, E_xN, E_lk, E_lkn, E_s1, E_s1h, E_s1I, E_s1R, E_s1N, E_s1L, E_s2, E_s2h, E_s2L, E_s2I, E_s2R, E_s2N, E_a1, E_a0, E_aI, E_aR, E_aN, E_aL, Option.isSome_some, eq_self, true_and, and_true, true_or, or_true, ne_eq, not_false_eq_true, not_true_eq_false, reduceIte, reduceCtorEq, Nat.reduceAdd, Nat.reduceBEq, Nat.reduceEqDiff, Option.toList_some, Option.toList_none, List.cons_append, List.nil_append]
          refine sp_run hz _ _ e_Mod_findWords_77 _ _ _ ?_
          simp only [k_Mod_findWords_77, E_nil, E_iconst, E_bipush, E_sipush, E_ldc, E_ldc2, E_lconst, E_null, E_iload_n, E_lload_n, E_aload_n, E_istore_n, E_lstore_n, E_astore_n, E_astoreN_n, E_iload, E_lload, E_aload, E_istore, E_lstore, E_astore, E_astoreN, E_ldi, E_ldl, E_lda, E_ldN, E_iinc, E_iadd, E_isub, E_imul, E_iand, E_ior, E_ixor, E_ishl, E_ishr, E_idiv, E_irem, E_ineg, E_ladd, E_lsub, E_land, E_lor, E_lcmp, E_lshl, E_lshr, E_lushr, E_i2l, E_l2i, E_i2c, E_dupI, E_popI, E_dup_x1II, E_dup2II, E_dup_x1IR, E_dup2IR, E_dup_x1IN, E_dup2IN, E_dupR, E_popR, E_dup_x1RI, E_dup2RI, E_dup_x1RR, E_dup2RR, E_dup_x1RN, E_dup2RN, E_dupN, E_popN, E_dup_x1NI, E_dup2NI, E_dup_x1NR, E_dup2NR, E_dup_x1NN, E_dup2NN, E_goto, E_if_eq, E_if_ne, E_if_lt, E_if_ge, E_if_gt, E_if_le, E_ic_eq, E_ic_ne, E_ic_lt, E_ic_ge, E_ic_gt, E_ic_le, E_ifnull, E_ifnullN, E_ifnonnull, E_ifnonnullN, E_get, E_gf, E_xv, E_n0, E_ns, E_putI, E_putR, E_putN, E_pf, E_st0, E_sts, E_iaload, E_caload, E_laload, E_aaload, E_alen, E_iast, E_cast, E_last, E_xI, E_xJ, E_xQ, E_xN, E_lk, E_lkn, E_s1, E_s1h, E_s1I, E_s1R, E_s1N, E_s1L, E_s2, E_s2h, E_s2L, E_s2I, E_s2R, E_s2N, E_a1, E_a0, E_aI, E_aR, E_aN, E_aL, Option.isSome_some, eq_self, true_and, and_true, true_or, or_true, ne_eq, not_false_eq_true, not_true_eq_false, reduceIte, reduceCtorEq, Nat.reduceAdd, Nat.reduceBEq, Nat.reduceEqDiff, Option.toList_some, Option.toList_none, List.cons_append, List.nil_append]
          refine ⟨fun _ => ?_, fun h => h.elim⟩
          refine sp_run hz _ _ e_Mod_findWords_105 _ _ _ ?_
          simp only [k_Mod_findWords_105, E_nil, E_iconst, E_bipush, E_sipush, E_ldc, E_ldc2, E_lconst, E_null, E_iload_n, E_lload_n, E_aload_n, E_istore_n, E_lstore_n, E_astore_n, E_astoreN_n, E_iload, E_lload, E_aload, E_istore, E_lstore, E_astore, E_astoreN, E_ldi, E_ldl, E_lda, E_ldN, E_iinc, E_iadd, E_isub, E_imul, E_iand, E_ior, E_ixor, E_ishl, E_ishr, E_idiv, E_irem, E_ineg, E_ladd, E_lsub, E_land, E_lor, E_lcmp, E_lshl, E_lshr, E_lushr, E_i2l, E_l2i, E_i2c, E_dupI, E_popI, E_dup_x1II, E_dup2II, E_dup_x1IR, E_dup2IR, E_dup_x1IN, E_dup2IN, E_dupR, E_popR, E_dup_x1RI, E_dup2RI, E_dup_x1RR, E_dup2RR, E_dup_x1RN, E_dup2RN, E_dupN, E_popN, E_dup_x1NI, E_dup2NI, E_dup_x1NR, E_dup2NR, E_dup_x1NN, E_dup2NN, E_goto, E_if_eq, E_if_ne, E_if_lt, E_if_ge, E_if_gt, E_if_le, E_ic_eq, E_ic_ne, E_ic_lt, E_ic_ge, E_ic_gt, E_ic_le, E_ifnull, E_ifnullN, E_ifnonnull, E_ifnonnullN, E_get, E_gf, E_xv, E_n0, E_ns, E_putI, E_putR, E_putN, E_pf, E_st0, E_sts, E_iaload, E_caload, E_laload, E_aaload, E_alen, E_iast, E_cast, E_last, E_xI, E_xJ, E_xQ, E_xN, E_lk, E_lkn, E_s1, E_s1h, E_s1I, E_s1R, E_s1N, E_s1L, E_s2, E_s2h, E_s2L, E_s2I, E_s2R, E_s2N, E_a1, E_a0, E_aI, E_aR, E_aN, E_aL, Option.isSome_some, eq_self, true_and, and_true, true_or, or_true, ne_eq, not_false_eq_true, not_true_eq_false, reduceIte, reduceCtorEq, Nat.reduceAdd, Nat.reduceBEq, Nat.reduceEqDiff, Option.toList_some, Option.toList_none, List.cons_append, List.nil_append, h0.o, h2, rn_2, rn_24, v24, hcl, hc2, hin]
          refine ⟨fun _ => ?_, fun h => absurd (by rw [h32]; rfl) h⟩
          have e : wsc s (i + 1) = wsc s i := by rw [wsc_s, if_pos h32]
          exact next M1 V1 _ (by simp) h10 (by rw [e]; exact eV) (by rw [e]; exact hSk) hf
        have fst : s.getD i 0 ≠ 32 → s.getD i 0 ≠ 10 → (i = 0 ∨ s.getD (i - 1) 0 = 32) → ∀ (L : sp_L), (∀ q ∈ [(0, .ref (B 0))], q ∈ L) → sp_W z G M (sp_Q z G M Post 0 0) 2 0 0 72 L [] M1 := by
          intro h32 h10 hfi L hL
          refine sp_Lm _ hL ?_
          have hwb : (wsc s i).length < 72 := by omega
          have hinw : vp_in (nI (wsc s i).length) 72 := nI_in hwb (by decide)
          refine sp_run hz _ _ e_Mod_findWords_72 _ _ _ ?_
          simp only [k_Mod_findWords_72, E_nil, E_iconst, E_bipush, E_sipush, E_ldc, E_ldc2, E_lconst, E_null, E_iload_n, E_lload_n, E_aload_n, E_istore_n, E_lstore_n, E_astore_n, E_astoreN_n, E_iload, E_lload, E_aload, E_istore, E_lstore, E_astore, E_astoreN, E_ldi, E_ldl, E_lda, E_ldN, E_iinc, E_iadd, E_isub, E_imul, E_iand, E_ior, E_ixor, E_ishl, E_ishr, E_idiv, E_irem, E_ineg, E_ladd, E_lsub, E_land, E_lor, E_lcmp, E_lshl, E_lshr, E_lushr, E_i2l, E_l2i, E_i2c, E_dupI, E_popI, E_dup_x1II, E_dup2II, E_dup_x1IR, E_dup2IR, E_dup_x1IN, E_dup2IN, E_dupR, E_popR, E_dup_x1RI, E_dup2RI, E_dup_x1RR, E_dup2RR, E_dup_x1RN, E_dup2RN, E_dupN, E_popN, E_dup_x1NI, E_dup2NI, E_dup_x1NR, E_dup2NR, E_dup_x1NN, E_dup2NN, E_goto, E_if_eq, E_if_ne, E_if_lt, E_if_ge, E_if_gt, E_if_le, E_ic_eq, E_ic_ne, E_ic_lt, E_ic_ge, E_ic_gt, E_ic_le, E_ifnull, E_ifnullN, E_ifnonnull, E_ifnonnullN, E_get, E_gf, E_xv, E_n0, E_ns, E_putI, E_putR, E_putN, E_pf, E_st0, E_sts, E_iaload, E_caload, E_laload, E_aaload, E_alen, E_iast, E_cast, E_last, E_xI, E_xJ, E_xQ, E_xN, E_lk, E_lkn, E_s1, E_s1h, E_s1I, E_s1R, E_s1N, E_s1L, E_s2, E_s2h, E_s2L, E_s2I, E_s2R, E_s2N, E_a1, E_a0, E_aI, E_aR, E_aN, E_aL, Option.isSome_some, eq_self, true_and, and_true, true_or, or_true, ne_eq, not_false_eq_true, not_true_eq_false, reduceIte, reduceCtorEq, Nat.reduceAdd, Nat.reduceBEq, Nat.reduceEqDiff, Option.toList_some, Option.toList_none, List.cons_append, List.nil_append]
          refine sp_run hz _ _ e_Mod_findWords_77 _ _ _ ?_
          simp only [k_Mod_findWords_77, E_nil, E_iconst, E_bipush, E_sipush, E_ldc, E_ldc2, E_lconst, E_null, E_iload_n, E_lload_n, E_aload_n, E_istore_n, E_lstore_n, E_astore_n, E_astoreN_n, E_iload, E_lload, E_aload, E_istore, E_lstore, E_astore, E_astoreN, E_ldi, E_ldl, E_lda, E_ldN, E_iinc, E_iadd, E_isub, E_imul, E_iand, E_ior, E_ixor, E_ishl, E_ishr, E_idiv, E_irem, E_ineg, E_ladd, E_lsub, E_land, E_lor, E_lcmp, E_lshl, E_lshr, E_lushr, E_i2l, E_l2i, E_i2c, E_dupI, E_popI, E_dup_x1II, E_dup2II, E_dup_x1IR, E_dup2IR, E_dup_x1IN, E_dup2IN, E_dupR, E_popR, E_dup_x1RI, E_dup2RI, E_dup_x1RR, E_dup2RR, E_dup_x1RN, E_dup2RN, E_dupN, E_popN, E_dup_x1NI, E_dup2NI, E_dup_x1NR, E_dup2NR, E_dup_x1NN, E_dup2NN, E_goto, E_if_eq, E_if_ne, E_if_lt, E_if_ge, E_if_gt, E_if_le, E_ic_eq, E_ic_ne, E_ic_lt, E_ic_ge, E_ic_gt, E_ic_le, E_ifnull, E_ifnullN, E_ifnonnull, E_ifnonnullN, E_get, E_gf, E_xv, E_n0, E_ns, E_putI, E_putR, E_putN, E_pf, E_st0, E_sts, E_iaload, E_caload, E_laload, E_aaload, E_alen, E_iast, E_cast, E_last, E_xI, E_xJ, E_xQ, E_xN, E_lk, E_lkn, E_s1, E_s1h, E_s1I, E_s1R, E_s1N, E_s1L, E_s2, E_s2h, E_s2L, E_s2I, E_s2R, E_s2N, E_a1, E_a0, E_aI, E_aR, E_aN, E_aL, Option.isSome_some, eq_self, true_and, and_true, true_or, or_true, ne_eq, not_false_eq_true, not_true_eq_false, reduceIte, reduceCtorEq, Nat.reduceAdd, Nat.reduceBEq, Nat.reduceEqDiff, Option.toList_some, Option.toList_none, List.cons_append, List.nil_append, h0.o, h22, rn_22, rn_21, rn_24, v24, l21', sp_u_s, sp_u_n _ _ n0_22, nI_1, rs_21, nI_clamp (show (wsc s i).length < 2 ^ 31 by omega), hinw]
          refine ⟨fun h => absurd h (by decide), fun _ => ?_⟩
          have v24' : up V1 21 ((wsc s i).length + 1) 24 = i := v24
          refine sp_run hz _ _ e_Mod_findWords_105 _ _ _ ?_
          simp only [k_Mod_findWords_105, E_nil, E_iconst, E_bipush, E_sipush, E_ldc, E_ldc2, E_lconst, E_null, E_iload_n, E_lload_n, E_aload_n, E_istore_n, E_lstore_n, E_astore_n, E_astoreN_n, E_iload, E_lload, E_aload, E_istore, E_lstore, E_astore, E_astoreN, E_ldi, E_ldl, E_lda, E_ldN, E_iinc, E_iadd, E_isub, E_imul, E_iand, E_ior, E_ixor, E_ishl, E_ishr, E_idiv, E_irem, E_ineg, E_ladd, E_lsub, E_land, E_lor, E_lcmp, E_lshl, E_lshr, E_lushr, E_i2l, E_l2i, E_i2c, E_dupI, E_popI, E_dup_x1II, E_dup2II, E_dup_x1IR, E_dup2IR, E_dup_x1IN, E_dup2IN, E_dupR, E_popR, E_dup_x1RI, E_dup2RI, E_dup_x1RR, E_dup2RR, E_dup_x1RN, E_dup2RN, E_dupN, E_popN, E_dup_x1NI, E_dup2NI, E_dup_x1NR, E_dup2NR, E_dup_x1NN, E_dup2NN, E_goto, E_if_eq, E_if_ne, E_if_lt, E_if_ge, E_if_gt, E_if_le, E_ic_eq, E_ic_ne, E_ic_lt, E_ic_ge, E_ic_gt, E_ic_le, E_ifnull, E_ifnullN, E_ifnonnull, E_ifnonnullN, E_get, E_gf, E_xv, E_n0, E_ns, E_putI, E_putR, E_putN, E_pf, E_st0, E_sts, E_iaload, E_caload, E_laload, E_aaload, E_alen, E_iast, E_cast, E_last, E_xI, E_xJ, E_xQ, E_xN, E_lk, E_lkn, E_s1, E_s1h, E_s1I, E_s1R, E_s1N, E_s1L, E_s2, E_s2h, E_s2L, E_s2I, E_s2R, E_s2N, E_a1, E_a0, E_aI, E_aR, E_aN, E_aL, Option.isSome_some, eq_self, true_and, and_true, true_or, or_true, ne_eq, not_false_eq_true, not_true_eq_false, reduceIte, reduceCtorEq, Nat.reduceAdd, Nat.reduceBEq, Nat.reduceEqDiff, Option.toList_some, Option.toList_none, List.cons_append, List.nil_append, sp_u_s, sp_u_n _ _ n2_0, sp_u_n _ _ n2_22, sp_u_n _ _ n23_0, sp_u_n _ _ n23_22, h2, h23, rn_2, rn_23, rn_21, rn_24, v24', up_s, hcl, hc2, hin, i_s1, nI_1, nI_clamp (show (wsc s i).length < 2 ^ 31 by omega), hinw]
          refine ⟨fun h => absurd ((nI_eq (b := 32) (by omega) (by decide)).mp h) h32, fun _ => ?_⟩
          have e : wsc s (i + 1) = wsc s i ++ [(i, 1)] := by rw [wsc_s, if_neg h32, if_pos hfi]
          refine next _ (up V1 21 ((wsc s i).length + 1)) _ (by simp) h10 ?_ ?_ (((hf.u (j := 22) rfl).u (j := 0) rfl).u (j := 23) rfl)
          · rw [e, List.length_append, List.length_singleton, eV]
            funext q
            unfold up
            by_cases q1 : q = 21
            · subst q1; rfl
            · by_cases q2 : q = 24
              · subst q2; rfl
              · simp only [if_neg q1, if_neg q2]
          · rw [e]
            refine ⟨_, K, ((h0.arr (j := 22) rfl _).fld _).arr (j := 23) rfl _, ⟨l1, l3, l5, by rw [List.length_append]; rfl, l25⟩, ⟨t2, t4, t26, ?_, ti, tp⟩, ⟨b1, b2, b3, by rw [List.length_append, List.length_singleton]; omega, b5⟩, hch, hr⟩
            intro k p hk
            show upd (F 22) (wsc s i).length (nI i) k = _ ∧ upd (F 23) (wsc s i).length (nI (i + 1)) k = _
            by_cases hkl : k < (wsc s i).length
            · rw [List.getElem?_append_left hkl] at hk
              rw [pk_un (by omega), pk_un (by omega)]
              exact tw k p hk
            · have hk2 : k = (wsc s i).length := by
                have := (List.getElem?_eq_some_iff.mp hk).1
                rw [List.length_append, List.length_singleton] at this
                omega
              subst hk2
              rw [List.getElem?_append_right (Nat.le_refl _), Nat.sub_self] at hk
              cases hk
              rw [pk_us, pk_us]
              exact ⟨rfl, rfl⟩
        have mid : s.getD i 0 ≠ 32 → s.getD i 0 ≠ 10 → ¬ (i = 0 ∨ s.getD (i - 1) 0 = 32) → ∀ (L : sp_L), (∀ q ∈ [(0, .ref (B 0))], q ∈ L) → sp_W z G M (sp_Q z G M Post 0 0) 2 0 0 76 L [] M1 := by
          intro h32 h10 hfi L hL
          refine sp_Lm _ hL ?_
          obtain ⟨l', wa, wb, ew, hab⟩ := wsc_last s i (by omega) (fun q => hfi (Or.inr q))
          have hwl' : (wsc s i).length = l'.length + 1 := by rw [ew, List.length_append]; rfl
          have v21 : V1 21 = l'.length + 1 := l21'.trans hwl'
          have hinl : vp_in (nI l'.length) 72 := nI_in (by omega) (by decide)
          refine sp_run hz _ _ e_Mod_findWords_76 _ _ _ ?_
          simp only [k_Mod_findWords_76, E_nil, E_iconst, E_bipush, E_sipush, E_ldc, E_ldc2, E_lconst, E_null, E_iload_n, E_lload_n, E_aload_n, E_istore_n, E_lstore_n, E_astore_n, E_astoreN_n, E_iload, E_lload, E_aload, E_istore, E_lstore, E_astore, E_astoreN, E_ldi, E_ldl, E_lda, E_ldN, E_iinc, E_iadd, E_isub, E_imul, E_iand, E_ior, E_ixor, E_ishl, E_ishr, E_idiv, E_irem, E_ineg, E_ladd, E_lsub, E_land, E_lor, E_lcmp, E_lshl, E_lshr, E_lushr, E_i2l, E_l2i, E_i2c, E_dupI, E_popI, E_dup_x1II, E_dup2II, E_dup_x1IR, E_dup2IR, E_dup_x1IN, E_dup2IN, E_dupR, E_popR, E_dup_x1RI, E_dup2RI, E_dup_x1RR, E_dup2RR, E_dup_x1RN, E_dup2RN, E_dupN, E_popN, E_dup_x1NI, E_dup2NI, E_dup_x1NR, E_dup2NR, E_dup_x1NN, E_dup2NN, E_goto, E_if_eq, E_if_ne, E_if_lt, E_if_ge, E_if_gt, E_if_le, E_ic_eq, E_ic_ne, E_ic_lt, E_ic_ge, E_ic_gt, E_ic_le, E_ifnull, E_ifnullN, E_ifnonnull, E_ifnonnullN, E_get, E_gf, E_xv, E_n0, E_ns, E_putI, E_putR, E_putN, E_pf, E_st0, E_sts, E_iaload, E_caload, E_laload, E_aaload, E_alen, E_iast, E_cast, E_last, E_xI, E_xJ, E_xQ, E_xN, E_lk, E_lkn, E_s1, E_s1h, E_s1I, E_s1R, E_s1N, E_s1L, E_s2, E_s2h, E_s2L, E_s2I, E_s2R, E_s2N, E_a1, E_a0, E_aI, E_aR, E_aN, E_aL, Option.isSome_some, eq_self, true_and, and_true, true_or, or_true, ne_eq, not_false_eq_true, not_true_eq_false, reduceIte, reduceCtorEq, Nat.reduceAdd, Nat.reduceBEq, Nat.reduceEqDiff, Option.toList_some, Option.toList_none, List.cons_append, List.nil_append]
          refine sp_run hz _ _ e_Mod_findWords_77 _ _ _ ?_
          simp only [k_Mod_findWords_77, E_nil, E_iconst, E_bipush, E_sipush, E_ldc, E_ldc2, E_lconst, E_null, E_iload_n, E_lload_n, E_aload_n, E_istore_n, E_lstore_n, E_astore_n, E_astoreN_n, E_iload, E_lload, E_aload, E_istore, E_lstore, E_astore, E_astoreN, E_ldi, E_ldl, E_lda, E_ldN, E_iinc, E_iadd, E_isub, E_imul, E_iand, E_ior, E_ixor, E_ishl, E_ishr, E_idiv, E_irem, E_ineg, E_ladd, E_lsub, E_land, E_lor, E_lcmp, E_lshl, E_lshr, E_lushr, E_i2l, E_l2i, E_i2c, E_dupI, E_popI, E_dup_x1II, E_dup2II, E_dup_x1IR, E_dup2IR, E_dup_x1IN, E_dup2IN, E_dupR, E_popR, E_dup_x1RI, E_dup2RI, E_dup_x1RR, E_dup2RR, E_dup_x1RN, E_dup2RN, E_dupN, E_popN, E_dup_x1NI, E_dup2NI, E_dup_x1NR, E_dup2NR, E_dup_x1NN, E_dup2NN, E_goto, E_if_eq, E_if_ne, E_if_lt, E_if_ge, E_if_gt, E_if_le, E_ic_eq, E_ic_ne, E_ic_lt, E_ic_ge, E_ic_gt, E_ic_le, E_ifnull, E_ifnullN, E_ifnonnull, E_ifnonnullN, E_get, E_gf, E_xv, E_n0, E_ns, E_putI, E_putR, E_putN, E_pf, E_st0, E_sts, E_iaload, E_caload, E_laload, E_aaload, E_alen, E_iast, E_cast, E_last, E_xI, E_xJ, E_xQ, E_xN, E_lk, E_lkn, E_s1, E_s1h, E_s1I, E_s1R, E_s1N, E_s1L, E_s2, E_s2h, E_s2L, E_s2I, E_s2R, E_s2N, E_a1, E_a0, E_aI, E_aR, E_aN, E_aL, Option.isSome_some, eq_self, true_and, and_true, true_or, or_true, ne_eq, not_false_eq_true, not_true_eq_false, reduceIte, reduceCtorEq, Nat.reduceAdd, Nat.reduceBEq, Nat.reduceEqDiff, Option.toList_some, Option.toList_none, List.cons_append, List.nil_append]
          refine ⟨fun _ => ?_, fun h => h.elim⟩
          refine sp_run hz _ _ e_Mod_findWords_105 _ _ _ ?_
          simp only [k_Mod_findWords_105, E_nil, E_iconst, E_bipush, E_sipush, E_ldc, E_ldc2, E_lconst, E_null, E_iload_n, E_lload_n, E_aload_n, E_istore_n, E_lstore_n, E_astore_n, E_astoreN_n, E_iload, E_lload, E_aload, E_istore, E_lstore, E_astore, E_astoreN, E_ldi, E_ldl, E_lda, E_ldN, E_iinc, E_iadd, E_isub, E_imul, E_iand, E_ior, E_ixor, E_ishl, E_ishr, E_idiv, E_irem, E_ineg, E_ladd, E_lsub, E_land, E_lor, E_lcmp, E_lshl, E_lshr, E_lushr, E_i2l, E_l2i, E_i2c, E_dupI, E_popI, E_dup_x1II, E_dup2II, E_dup_x1IR, E_dup2IR, E_dup_x1IN, E_dup2IN, E_dupR, E_popR, E_dup_x1RI, E_dup2RI, E_dup_x1RR, E_dup2RR, E_dup_x1RN, E_dup2RN, E_dupN, E_popN, E_dup_x1NI, E_dup2NI, E_dup_x1NR, E_dup2NR, E_dup_x1NN, E_dup2NN, E_goto, E_if_eq, E_if_ne, E_if_lt, E_if_ge, E_if_gt, E_if_le, E_ic_eq, E_ic_ne, E_ic_lt, E_ic_ge, E_ic_gt, E_ic_le, E_ifnull, E_ifnullN, E_ifnonnull, E_ifnonnullN, E_get, E_gf, E_xv, E_n0, E_ns, E_putI, E_putR, E_putN, E_pf, E_st0, E_sts, E_iaload, E_caload, E_laload, E_aaload, E_alen, E_iast, E_cast, E_last, E_xI, E_xJ, E_xQ, E_xN, E_lk, E_lkn, E_s1, E_s1h, E_s1I, E_s1R, E_s1N, E_s1L, E_s2, E_s2h, E_s2L, E_s2I, E_s2R, E_s2N, E_a1, E_a0, E_aI, E_aR, E_aN, E_aL, Option.isSome_some, eq_self, true_and, and_true, true_or, or_true, ne_eq, not_false_eq_true, not_true_eq_false, reduceIte, reduceCtorEq, Nat.reduceAdd, Nat.reduceBEq, Nat.reduceEqDiff, Option.toList_some, Option.toList_none, List.cons_append, List.nil_append, h0.o, h2, h23, rn_2, rn_23, rn_21, rn_24, v24, v21, hcl, hc2, hin, i_s1, nI_1, nI_clamp (show l'.length < 2 ^ 31 by omega), hinl]
          refine ⟨fun h => absurd ((nI_eq (b := 32) (by omega) (by decide)).mp h) h32, fun _ => ?_⟩
          have e : wsc s (i + 1) = l' ++ [(wa, wb + 1)] := by rw [wsc_s, if_neg h32, if_neg hfi, ew, bmp_app]
          have el : (l' ++ [(wa, wb + 1)]).length = (wsc s i).length := by rw [hwl', List.length_append]; rfl
          refine next _ V1 _ (by simp) h10 (by rw [e, el]; exact eV) ?_ (hf.u (j := 23) rfl)
          rw [e]
          refine ⟨_, K, h0.arr (j := 23) rfl _, ⟨l1, l3, l5, by rw [el]; exact l21, l25⟩, ⟨t2, t4, t26, ?_, ti, tp⟩, ⟨b1, b2, b3, by rw [el]; exact b4, b5⟩, hch, hr⟩
          intro k p hk
          show F 22 k = _ ∧ upd (F 23) l'.length (nI (i + 1)) k = _
          by_cases hkl : k < l'.length
          · rw [List.getElem?_append_left hkl] at hk
            rw [pk_un (by omega)]
            exact tw k p (by rw [ew, List.getElem?_append_left hkl]; exact hk)
          · have hk2 : k = l'.length := by
              have := (List.getElem?_eq_some_iff.mp hk).1
              rw [List.length_append, List.length_singleton] at this
              omega
            subst hk2
            have := tw l'.length (wa, wb) (by rw [ew, List.getElem?_append_right (Nat.le_refl _), Nat.sub_self]; rfl)
            rw [List.getElem?_append_right (Nat.le_refl _), Nat.sub_self] at hk
            cases hk
            rw [pk_us]
            refine ⟨this.1, ?_⟩
            show nI (i + 1) = nI (wa + (wb + 1))
            rw [← hab]
            rfl
        refine sp_run hz _ _ e_Mod_findWords_10 _ _ _ ?_
        simp only [k_Mod_findWords_10, E_nil, E_iconst, E_bipush, E_sipush, E_ldc, E_ldc2, E_lconst, E_null, E_iload_n, E_lload_n, E_aload_n, E_istore_n, E_lstore_n, E_astore_n, E_astoreN_n, E_iload, E_lload, E_aload, E_istore, E_lstore, E_astore, E_astoreN, E_ldi, E_ldl, E_lda, E_ldN, E_iinc, E_iadd, E_isub, E_imul, E_iand, E_ior, E_ixor, E_ishl, E_ishr, E_idiv, E_irem, E_ineg, E_ladd, E_lsub, E_land, E_lor, E_lcmp, E_lshl, E_lshr, E_lushr, E_i2l, E_l2i, E_i2c, E_dupI, E_popI, E_dup_x1II, E_dup2II, E_dup_x1IR, E_dup2IR, E_dup_x1IN, E_dup2IN, E_dupR, E_popR, E_dup_x1RI, E_dup2RI, E_dup_x1RR, E_dup2RR, E_dup_x1RN, E_dup2RN, E_dupN, E_popN, E_dup_x1NI, E_dup2NI, E_dup_x1NR, E_dup2NR, E_dup_x1NN, E_dup2NN, E_goto, E_if_eq, E_if_ne, E_if_lt, E_if_ge, E_if_gt, E_if_le, E_ic_eq, E_ic_ne, E_ic_lt, E_ic_ge, E_ic_gt, E_ic_le, E_ifnull, E_ifnullN, E_ifnonnull, E_ifnonnullN, E_get, E_gf, E_xv, E_n0, E_ns, E_putI, E_putR, E_putN, E_pf, E_st0, E_sts, E_iaload, E_caload, E_laload, E_aaload, E_alen, E_iast, E_cast, E_last, E_xI, E_xJ, E_xQ, E_xN, E_lk, E_lkn, E_s1, E_s1h, E_s1I, E_s1R, E_s1N, E_s1L, E_s2, E_s2h, E_s2L, E_s2I, E_s2R, E_s2N, E_a1, E_a0, E_aI, E_aR, E_aN, E_aL, Option.isSome_some, eq_self, true_and, and_true, true_or, or_true, ne_eq, not_false_eq_true, not_true_eq_false, reduceIte, reduceCtorEq, Nat.reduceAdd, Nat.reduceBEq, Nat.reduceEqDiff, Option.toList_some, Option.toList_none, List.cons_append, List.nil_append, h0.o, h2, rn_24, rn_1, rn_2, v24, l1, hcl, hc2, hin]
        refine ⟨fun h => absurd ((nI_leI (by omega) (by omega)).mp h) (by omega), fun _ => ⟨fun h => ?_, fun h => ⟨fun h3 => ?_, fun h3 => ⟨fun h4 => ?_, fun h4 => ?_⟩⟩⟩⟩
        · have h10 : s.getD i 0 = 10 := (nI_eq (b := 10) (by omega) (by decide)).mp h
          rw [if_pos h10] at hb
          have e : pu_brk s = i := hb
          rw [← e] at hSk eV
          rw [eV] at hSk
          exact sp_vret hz d_Mod_findWords_149 (Nat.le_refl _) (Nat.le_refl _) (hp M1 hSk hf)
        · exact stay ((nI_eq (b := 32) (by omega) (by decide)).mp h3) (fun q => h (by rw [q]; rfl)) _ (by simp)
        · have hi0 : i = 0 := (nI_eq (b := 0) (by omega) (by decide)).mp h4
          exact fst (fun q => h3 (by rw [q]; rfl)) (fun q => h (by rw [q]; rfl)) (Or.inl hi0) _ (by simp)
        · have hi0 : i ≠ 0 := fun q => h4 (by rw [q]; rfl)
          have e1 : nI i - 1 = nI (i - 1) := by
            have := i_s1 (i - 1)
            rwa [Nat.sub_add_cancel (by omega)] at this
          have hcp : s.getD (i - 1) 0 < 127 := by
            have hq : pu_ischar (s.getD (i - 1) 0) = true := hch _ (pu_getD (by omega))
            unfold pu_ischar at hq
            simp only [Bool.or_eq_true, Bool.and_eq_true, decide_eq_true_eq] at hq
            omega
          rw [e1, nI_clamp (show i - 1 < 2 ^ 31 by omega), t2 (i - 1) (by omega)]
          refine ⟨nI_in (by omega) (by decide), fun h5 => ?_, fun h5 => ?_⟩
          · refine mid (fun q => h3 (by rw [q]; rfl)) (fun q => h (by rw [q]; rfl)) (fun q => ?_) _ (by simp)
            rcases q with q | q
            · exact hi0 q
            · exact h5 (by rw [q]; rfl)
          · exact fst (fun q => h3 (by rw [q]; rfl)) (fun q => h (by rw [q]; rfl)) (Or.inr ((nI_eq (b := 32) (by omega) (by decide)).mp h5)) _ (by simp)
    refine sp_run hz _ _ e_Mod_findWords_0 _ _ _ ?_
    simp only [k_Mod_findWords_0, E_nil, E_iconst, E_bipush, E_sipush, E_ldc, E_ldc2, E_lconst, E_null, E_iload_n, E_lload_n, E_aload_n, E_istore_n, E_lstore_n, E_astore_n, E_astoreN_n, E_iload, E_lload, E_aload, E_istore, E_lstore, E_astore, E_astoreN, E_ldi, E_ldl, E_lda, E_ldN, E_iinc, E_iadd, E_isub, E_imul, E_iand, E_ior, E_ixor, E_ishl, E_ishr, E_idiv, E_irem, E_ineg, E_ladd, E_lsub, E_land, E_lor, E_lcmp, E_lshl, E_lshr, E_lushr, E_i2l, E_l2i, E_i2c, E_dupI, E_popI, E_dup_x1II, E_dup2II, E_dup_x1IR, E_dup2IR, E_dup_x1IN, E_dup2IN, E_dupR, E_popR, E_dup_x1RI, E_dup2RI, E_dup_x1RR, E_dup2RR, E_dup_x1RN, E_dup2RN, E_dupN, E_popN, E_dup_x1NI, E_dup2NI, E_dup_x1NR, E_dup2NR, E_dup_x1NN, E_dup2NN, E_goto, E_if_eq, E_if_ne, E_if_lt, E_if_ge, E_if_gt, E_if_le, E_ic_eq, E_ic_ne, E_ic_lt, E_ic_ge, E_ic_gt, E_ic_le, E_ifnull, E_ifnullN, E_ifnonnull, E_ifnonnullN, E_get, E_gf, E_xv, E_n0, E_ns, E_putI, E_putR, E_putN, E_pf, E_st0, E_sts, E_iaload, E_caload, E_laload, E_aaload, E_alen, E_iast, E_cast, E_last, E_xI, E_xJ, E_xQ, E_xN, E_lk, E_lkn, E_s1, E_s1h, E_s1I, E_s1R, E_s1N, E_s1L, E_s2, E_s2h, E_s2L, E_s2I, E_s2R, E_s2N, E_a1, E_a0, E_aI, E_aR, E_aN, E_aL, Option.isSome_some, eq_self, true_and, and_true, true_or, or_true, ne_eq, not_false_eq_true, not_true_eq_false, reduceIte, reduceCtorEq, Nat.reduceAdd, Nat.reduceBEq, Nat.reduceEqDiff, Option.toList_some, Option.toList_none, List.cons_append, List.nil_append, hS.o, sp_u_s, show ((rL B V).set 21 (.int 0)) = rL B (up V 21 0) from rfl, show ((rL B (up V 21 0)).set 24 (.int 0)) = rL B (up (up V 21 0) 24 0) from rfl, rn_21, rn_24]
    refine loop s.length 0 _ _ _ (by simp) rfl (Nat.zero_le _) (by rw [List.drop_zero, Nat.zero_add]) rfl ?_ (((rfr.refl B M).u (j := 0) rfl).u (j := 0) rfl)
    obtain ⟨F, K, h0, ⟨l1, l3, l5, l21, l25⟩, ⟨t2, t4, t26, tw, ti, tp⟩, ⟨b1, b2, b3, b4, b5⟩, hr⟩ := hS
    exact ⟨F, K, (h0.fld _).fld _, ⟨l1, l3, l5, rfl, l25⟩, ⟨t2, t4, t26, (fun k p hk => absurd hk (by show ¬ ([] : List (Nat × Nat))[k]? = some p; simp)), ti, tp⟩, ⟨b1, b2, b3, Nat.zero_le _, b5⟩, hr⟩
def T_Mod_wordLength (G : sp_G) : sp_T := fun av M Post => ∃ B s a R pg ws fr V w, av = [.ref (B 0), .int (nI w)] ∧ rS G M B s a R pg ws fr V ∧ w < 2 ^ 31 ∧ Post (some (.int (nI (wL ws w)))) M
set_option maxHeartbeats 4000000 in
set_option maxRecDepth 100000 in
theorem c_Mod_wordLength (l : Launch) (G : sp_G) : sp_Met l G y_Mod_wordLength b_Mod_wordLength 2 (some .int) {} (T_Mod_wordLength G) := by
  refine sp_entry (by decide) (fun av M Post h => ?_) (fun z M av Post hz _ hT => ?_)
  · obtain ⟨B, s, a, R, pg, ws, fr, V, w, rfl, -⟩ := h
    exact Nat.le_of_ble_eq_true rfl
  · obtain ⟨B, s, a, R, pg, ws, fr, V, w, rfl, ⟨F, K, h0, ⟨l1, l3, l5, l21, l25⟩, ⟨t2, t4, t26, tw, ti, tp⟩, ⟨b1, b2, b3, b4, b5⟩, hr⟩, hw, hp⟩ := hT
    have h22 : M (B 22) = some (.inl (G.2.1 1, 72, .inl (F 22))) := h0.a 22 rfl
    have h23 : M (B 23) = some (.inl (G.2.1 1, 72, .inl (F 23))) := h0.a 23 rfl
    refine sp_run hz _ _ e_Mod_wordLength_0 _ _ _ ?_
    simp only [k_Mod_wordLength_0, E_nil, E_iconst, E_bipush, E_sipush, E_ldc, E_ldc2, E_lconst, E_null, E_iload_n, E_lload_n, E_aload_n, E_istore_n, E_lstore_n, E_astore_n, E_astoreN_n, E_iload, E_lload, E_aload, E_istore, E_lstore, E_astore, E_astoreN, E_ldi, E_ldl, E_lda, E_ldN, E_iinc, E_iadd, E_isub, E_imul, E_iand, E_ior, E_ixor, E_ishl, E_ishr, E_idiv, E_irem, E_ineg, E_ladd, E_lsub, E_land, E_lor, E_lcmp, E_lshl, E_lshr, E_lushr, E_i2l, E_l2i, E_i2c, E_dupI, E_popI, E_dup_x1II, E_dup2II, E_dup_x1IR, E_dup2IR, E_dup_x1IN, E_dup2IN, E_dupR, E_popR, E_dup_x1RI, E_dup2RI, E_dup_x1RR, E_dup2RR, E_dup_x1RN, E_dup2RN, E_dupN, E_popN, E_dup_x1NI, E_dup2NI, E_dup_x1NR, E_dup2NR, E_dup_x1NN, E_dup2NN, E_goto, E_if_eq, E_if_ne, E_if_lt, E_if_ge, E_if_gt, E_if_le, E_ic_eq, E_ic_ne, E_ic_lt, E_ic_ge, E_ic_gt, E_ic_le, E_ifnull, E_ifnullN, E_ifnonnull, E_ifnonnullN, E_get, E_gf, E_xv, E_n0, E_ns, E_putI, E_putR, E_putN, E_pf, E_st0, E_sts, E_iaload, E_caload, E_laload, E_aaload, E_alen, E_iast, E_cast, E_last, E_xI, E_xJ, E_xQ, E_xN, E_lk, E_lkn, E_s1, E_s1h, E_s1I, E_s1R, E_s1N, E_s1L, E_s2, E_s2h, E_s2L, E_s2I, E_s2R, E_s2N, E_a1, E_a0, E_aI, E_aR, E_aN, E_aL, Option.isSome_some, eq_self, true_and, and_true, true_or, or_true, ne_eq, not_false_eq_true, not_true_eq_false, reduceIte, reduceCtorEq, Nat.reduceAdd, Nat.reduceBEq, Nat.reduceEqDiff, Option.toList_some, Option.toList_none, List.cons_append, List.nil_append, h0.o, h22, h23, rn_21, rn_22, rn_23, l21, nI_clamp hw]
    refine ⟨fun h => ?_, fun h => ?_⟩
    · have hle := (nI_leI (by omega) hw).mp h
      have e : wL ws w = 0 := by
        unfold wL
        rw [pu_getD_out hle]
      rw [e] at hp
      refine sp_run hz _ _ e_Mod_wordLength_24 _ _ _ ?_
      simp only [k_Mod_wordLength_24, E_nil, E_iconst, E_bipush, E_sipush, E_ldc, E_ldc2, E_lconst, E_null, E_iload_n, E_lload_n, E_aload_n, E_istore_n, E_lstore_n, E_astore_n, E_astoreN_n, E_iload, E_lload, E_aload, E_istore, E_lstore, E_astore, E_astoreN, E_ldi, E_ldl, E_lda, E_ldN, E_iinc, E_iadd, E_isub, E_imul, E_iand, E_ior, E_ixor, E_ishl, E_ishr, E_idiv, E_irem, E_ineg, E_ladd, E_lsub, E_land, E_lor, E_lcmp, E_lshl, E_lshr, E_lushr, E_i2l, E_l2i, E_i2c, E_dupI, E_popI, E_dup_x1II, E_dup2II, E_dup_x1IR, E_dup2IR, E_dup_x1IN, E_dup2IN, E_dupR, E_popR, E_dup_x1RI, E_dup2RI, E_dup_x1RR, E_dup2RR, E_dup_x1RN, E_dup2RN, E_dupN, E_popN, E_dup_x1NI, E_dup2NI, E_dup_x1NR, E_dup2NR, E_dup_x1NN, E_dup2NN, E_goto, E_if_eq, E_if_ne, E_if_lt, E_if_ge, E_if_gt, E_if_le, E_ic_eq, E_ic_ne, E_ic_lt, E_ic_ge, E_ic_gt, E_ic_le, E_ifnull, E_ifnullN, E_ifnonnull, E_ifnonnullN, E_get, E_gf, E_xv, E_n0, E_ns, E_putI, E_putR, E_putN, E_pf, E_st0, E_sts, E_iaload, E_caload, E_laload, E_aaload, E_alen, E_iast, E_cast, E_last, E_xI, E_xJ, E_xQ, E_xN, E_lk, E_lkn, E_s1, E_s1h, E_s1I, E_s1R, E_s1N, E_s1L, E_s2, E_s2h, E_s2L, E_s2I, E_s2R, E_s2N, E_a1, E_a0, E_aI, E_aR, E_aN, E_aL, Option.isSome_some, eq_self, true_and, and_true, true_or, or_true, ne_eq, not_false_eq_true, not_true_eq_false, reduceIte, reduceCtorEq, Nat.reduceAdd, Nat.reduceBEq, Nat.reduceEqDiff, Option.toList_some, Option.toList_none, List.cons_append, List.nil_append]
      exact sp_iret hz d_Mod_wordLength_25 (Nat.le_refl _) (Nat.le_refl _) hp
    · have hlt : w < ws.length := Nat.not_le.mp fun q => h ((nI_leI (by omega) hw).mpr q)
      have hg : ws[w]? = some ws[w] := List.getElem?_eq_getElem hlt
      have e2 : wL ws w = ws[w].2 := by
        unfold wL
        rw [List.getD_eq_getElem?_getD, hg]
        rfl
      obtain ⟨e3, e4⟩ := tw w _ hg
      refine ⟨nI_in (by omega) (by decide), nI_in (by omega) (by decide), ?_⟩
      rw [e3, e4, pk_sub (Nat.le_add_right _ _), Nat.add_sub_cancel_left, ← e2]
      exact sp_iret hz d_Mod_wordLength_25 (Nat.le_refl _) (Nat.le_refl _) hp
