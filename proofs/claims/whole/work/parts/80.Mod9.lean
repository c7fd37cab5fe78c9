/-! The model's small steps: an item's end, the text that is got ready. -/
def T_Mod_endIf (G : sp_G) : sp_T := fun av M Post => ∃ B s a R pg ws fr V i b, av = [.ref (B 0), .int (nI i), .int (b2i b)] ∧ rS G M B s a R pg ws fr V ∧ i < R.length ∧ (b = false → Post none M) ∧ (b = true → ∀ M', rS G M' B s a (rmx i R) pg ws fr (up (up V 5 (R.length - 1)) 18 (V 18 + 1)) → rfr B M M' → Post none M')
set_option maxHeartbeats 4000000 in
set_option maxRecDepth 100000 in
theorem c_Mod_endIf (l : Launch) (G : sp_G) : sp_Met l G y_Mod_endIf b_Mod_endIf 3 none { frames := 1, locals := 22 } (T_Mod_endIf G) := by
  refine sp_entry (by decide) (fun av M Post h => ?_) (fun z M av Post hz _ hT => ?_)
  · obtain ⟨B, s, a, R, pg, ws, fr, V, i, b, rfl, -⟩ := h
    exact Nat.le_of_ble_eq_true rfl
  · obtain ⟨B, s, a, R, pg, ws, fr, V, i, b, rfl, hS, hi, p0, p1⟩ := hT
    refine sp_run hz _ _ e_Mod_endIf_0 _ _ _ ?_
    simp only [k_Mod_endIf_0, E_nil, E_iconst, E_bipush, E_sipush, E_ldc, E_ldc2, E_lconst, E_null, E_iload_n, E_lload_n, E_aload_n, E_istore_n, E_lstore_n, E_astore_n, E_astoreN_n, E_iload, E_lload, E_aload, E_istore, E_lstore, E_astore, E_astoreN, E_ldi, E_ldl, E_lda, E_ldN, E_iinc, E_iadd, E_isub, E_imul, E_iand, E_ior, E_ixor, E_ishl, E_ishr, E_idiv, E_irem, E_ineg, E_ladd, E_lsub, E_land, E_lor, E_lcmp, E_lshl, E_lshr, E_lushr, E_i2l, E_l2i, E_i2c, E_dupI, E_popI, E_dup_x1II, E_dup2II, E_dup_x1IR, E_dup2IR, E_dup_x1IN, E_dup2IN, E_dupR, E_popR, E_dup_x1RI, E_dup2RI, E_dup_x1RR, E_dup2RR, E_dup_x1RN, E_dup2RN, E_dupN, E_popN, E_dup_x1NI, E_dup2NI, E_dup_x1NR, E_dup2NR, E_dup_x1NN, E_dup2NN, E_goto, E_if_eq, E_if_ne, E_if_lt, E_if_ge, E_if_gt, E_if_le, E_ic_eq, E_ic_ne, E_ic_lt, E_ic_ge, E_ic_gt, E_ic_le, E_ifnull, E_ifnullN, E_ifnonnull, E_ifnonnullN, E_get, E_gf, E_xv, E_n0, E_ns, E_putI, E_putR, E_putN, E_pf, E_st0, E_sts, E_iaload, E_caload, E_laload, E_aaload, E_alen, E_iast, E_cast, E_last, E_xI, E_xJ, E_xQ, E_xN, E_lk, E_lkn, E_s1, E_s1h, E_s1I, E_s1R, E_s1N, E_s1L, E_s2, E_s2h, E_s2L, E_s2I, E_s2R, E_s2N, E_a1, E_a0, E_aI, E_aR, E_aN, E_aL, Option.isSome_some, eq_self, true_and, and_true, true_or, or_true, ne_eq, not_false_eq_true, not_true_eq_false, reduceIte, reduceCtorEq, Nat.reduceAdd, Nat.reduceBEq, Nat.reduceEqDiff, Option.toList_some, Option.toList_none, List.cons_append, List.nil_append]
    cases b with
    | false => exact ⟨fun _ => sp_vret hz d_Mod_endIf_19 (Nat.le_refl _) (Nat.le_refl _) (p0 rfl), fun h => absurd rfl h⟩
    | true =>
      refine ⟨fun h => absurd h (by decide), fun _ => ?_⟩
      refine sp_callV hz (c_Mod_takeAway l G) (ci := 8) (As := [.int (nI i)]) (rest := []) rfl w_Mod_215 (by decide) hS.o rfl (Nat.le_of_ble_eq_true rfl) d_Mod_endIf_6 ⟨B, s, a, R, pg, ws, fr, V, i, rfl, hS, hi, fun M1 hS1 hf1 => ?_⟩ rfl
      have v18 : up V 5 (R.length - 1) 18 = V 18 := rfl
      refine sp_run hz _ _ e_Mod_endIf_9 _ _ _ ?_
      simp only [k_Mod_endIf_9, E_nil, E_iconst, E_bipush, E_sipush, E_ldc, E_ldc2, E_lconst, E_null, E_iload_n, E_lload_n, E_aload_n, E_istore_n, E_lstore_n, E_astore_n, E_astoreN_n, E_iload, E_lload, E_aload, E_istore, E_lstore, E_astore, E_astoreN, E_ldi, E_ldl, E_lda, E_ldN, E_iinc, E_iadd, E_isub, E_imul, E_iand, E_ior, E_ixor, E_ishl, E_ishr, E_idiv, E_irem, E_ineg, E_ladd, E_lsub, E_land, E_lor, E_lcmp, E_lshl, E_lshr, E_lushr, E_i2l, E_l2i, E_i2c, E_dupI, E_popI, E_dup_x1II, E_dup2II, E_dup_x1IR, E_dup2IR, E_dup_x1IN, E_dup2IN, E_dupR, E_popR, E_dup_x1RI, E_dup2RI, E_dup_x1RR, E_dup2RR, E_dup_x1RN, E_dup2RN, E_dupN, E_popN, E_dup_x1NI, E_dup2NI, E_dup_x1NR, E_dup2NR, E_dup_x1NN, E_dup2NN, E_goto, E_if_eq, E_if_ne, E_if_lt, E_if_ge, E_if_gt, E_if_le, E_ic_eq, E_ic_ne, E_ic_lt, E_ic_ge, E_ic_gt, E_ic_le, E_ifnull, E_ifnullN, E_ifnonnull, E_ifnonnullN, E_get, E_gf, E_xv, E_n0, E_ns, E_putI, E_putR, E_putN, E_pf, E_st0, E_sts, E_iaload, E_caload, E_laload, E_aaload, E_alen, E_iast, E_cast, E_last, E_xI, E_xJ, E_xQ, E_xN, E_lk, E_lkn, E_s1, E_s1h, E_s1I, E_s1R, E_s1N, E_s1L, E_s2, E_s2h, E_s2L, E_s2I, E_s2R, E_s2N, E_a1, E_a0, E_aI, E_aR, E_aN, E_aL, Option.isSome_some, eq_self, true_and, and_true, true_or, or_true, ne_eq, not_false_eq_true, not_true_eq_false, reduceIte, reduceCtorEq, Nat.reduceAdd, Nat.reduceBEq, Nat.reduceEqDiff, Option.toList_some, Option.toList_none, List.cons_append, List.nil_append, hS1.o, rn_18, v18, nI_1, rs_18]
      exact sp_vret hz d_Mod_endIf_19 (Nat.le_refl _) (Nat.le_refl _) (p1 rfl _ (hS1.v _ rfl rfl rfl rfl rfl) (hf1.u (j := 0) rfl))
def T_Mod_ready (G : sp_G) : sp_T := fun av M Post => ∃ B s a R pg ws fr V c, av = [.ref (B 0), .int (nI c)] ∧ rS G M B s a R pg ws fr V ∧ c < 65536 ∧ fr.length < 300 ∧ ∀ M', rS G M' B s a R pg ws (fr ++ [c]) (up V 25 (fr.length + 1)) → rfr B M M' → Post none M'
set_option maxHeartbeats 4000000 in
set_option maxRecDepth 100000 in
theorem c_Mod_ready (l : Launch) (G : sp_G) : sp_Met l G y_Mod_ready b_Mod_ready 2 none {} (T_Mod_ready G) := by
  refine sp_entry (by decide) (fun av M Post h => ?_) (fun z M av Post hz _ hT => ?_)
  · obtain ⟨B, s, a, R, pg, ws, fr, V, c, rfl, -⟩ := h
    exact Nat.le_of_ble_eq_true rfl
  · obtain ⟨B, s, a, R, pg, ws, fr, V, c, rfl, ⟨F, K, h0, ⟨l1, l3, l5, l21, l25⟩, ⟨t2, t4, t26, tw, ti, tp⟩, ⟨b1, b2, b3, b4, b5⟩, hr⟩, hc, ha, hp⟩ := hT
    have h26 : M (B 26) = some (.inl (G.2.1 0, 300, .inl (F 26))) := h0.a 26 rfl
    have n026 := h0.ne 0 26 rfl rfl (by decide)
    refine sp_run hz _ _ e_Mod_ready_0 _ _ _ ?_
    simp only [k_Mod_ready_0, E_nil, E_iconst, E_bipush, E_sipush, E_ldc, E_ldc2, E_lconst, E_null, E_iload_n, E_lload_n, E_aload_n, E_istore_n, E_lstore_n, E_astore_n, E_astoreN_n, E_iload, E_lload, E_aload, E_istore, E_lstore, E_astore, E_astoreN, E_ldi, E_ldl, E_lda, E_ldN, E_iinc, E_iadd, E_isub, E_imul, E_iand, E_ior, E_ixor, E_ishl, E_ishr, E_idiv, E_irem, E_ineg, E_ladd, E_lsub, E_land, E_lor, E_lcmp, E_lshl, E_lshr, E_lushr, E_i2l, E_l2i, E_i2c, E_dupI, E_popI, E_dup_x1II, E_dup2II, E_dup_x1IR, E_dup2IR, E_dup_x1IN, E_dup2IN, E_dupR, E_popR, E_dup_x1RI, E_dup2RI, E_dup_x1RR, E_dup2RR, E_dup_x1RN, E_dup2RN, E_dupN, E_popN, E_dup_x1NI, E_dup2NI, E_dup_x1NR, E_dup2NR, E_dup_x1NN, E_dup2NN, E_goto, E_if_eq, E_if_ne, E_if_lt, E_if_ge, E_if_gt, E_if_le, E_ic_eq, E_ic_ne, E_ic_lt, E_ic_ge, E_ic_gt, E_ic_le, E_ifnull, E_ifnullN, E_ifnonnull, E_ifnonnullN, E_get, E_gf, E_xv, E_n0, E_ns, E_putI, E_putR, E_putN, E_pf, E_st0, E_sts, E_iaload, E_caload, E_laload, E_aaload, E_alen, E_iast, E_cast, E_last, E_xI, E_xJ, E_xQ, E_xN, E_lk, E_lkn, E_s1, E_s1h, E_s1I, E_s1R, E_s1N, E_s1L, E_s2, E_s2h, E_s2L, E_s2I, E_s2R, E_s2N, E_a1, E_a0, E_aI, E_aR, E_aN, E_aL, Option.isSome_some, eq_self, true_and, and_true, true_or, or_true, ne_eq, not_false_eq_true, not_true_eq_false, reduceIte, reduceCtorEq, Nat.reduceAdd, Nat.reduceBEq, Nat.reduceEqDiff, Option.toList_some, Option.toList_none, List.cons_append, List.nil_append, h0.o, h26, rn_26, rn_25, sp_u_s, sp_u_n _ _ n026, nI_1, rs_25, l25]
    refine ⟨nI_in (by omega) (by omega), ?_⟩
    rw [nI_clamp (by omega), pu_nar hc]
    exact sp_vret hz d_Mod_ready_20 (Nat.le_refl _) (Nat.le_refl _) (hp _ ⟨_, K, (h0.arr (j := 26) rfl _).fld _, ⟨l1, l3, l5, l21, by rw [List.length_append]; rfl⟩, ⟨t2, t4, rT_app t26 c, tw, ti, tp⟩, ⟨b1, b2, b3, b4, by rw [List.length_append, List.length_singleton]; omega⟩, hr⟩ (((rfr.refl B M).u (j := 26) rfl).u (j := 0) rfl))
def T_Mod_readyOld (G : sp_G) : sp_T := fun av M Post => ∃ B s a R pg ws fr V i x, av = [.ref (B 0), .int (nI i)] ∧ rS G M B s a R pg ws fr V ∧ R[i]? = some x ∧ fr.length + (iD x.1).length ≤ 300 ∧ ∀ M', rS G M' B s a R pg ws (fr ++ iD x.1) (up V 25 (fr ++ iD x.1).length) → rfr B M M' → Post none M'
set_option maxHeartbeats 4000000 in
set_option maxRecDepth 100000 in
theorem c_Mod_readyOld (l : Launch) (G : sp_G) : sp_Met l G y_Mod_readyOld b_Mod_readyOld 3 none { frames := 1, locals := 21 } (T_Mod_readyOld G) := by
  refine sp_entry (by decide) (fun av M Post h => ?_) (fun z M av Post hz _ hT => ?_)
  · obtain ⟨B, s, a, R, pg, ws, fr, V, i, x, rfl, -⟩ := h
    exact Nat.le_of_ble_eq_true rfl
  · obtain ⟨B, s, a, R, pg, ws, fr, V, i, x, rfl, hS, hx, hl, hp⟩ := hT
    have hlt := (List.getElem?_eq_some_iff.mp hx).1
    have b3 : R.length ≤ 48 := hS.bl.2.2.2.1
    have hw := (hS.cl4.1 x (List.mem_of_getElem? hx)).1
    have hd64 : (iD x.1).length ≤ 64 := by have := hw.2.2.1; omega
    have loop : ∀ n k (fr1 : List Nat) M1 (L : sp_L), (∀ q ∈ [(0, .ref (B 0)), (1, .int (nI i)), (2, .int (nI k))], q ∈ L) → (iD x.1).length - k = n → k ≤ (iD x.1).length → fr1 ++ (iD x.1).drop k = fr ++ iD x.1 → rS G M1 B s a R pg ws fr1 (up V 25 fr1.length) → rfr B M M1 → sp_W z G M (sp_Q z G M Post 0 0) 3 0 0 2 L [] M1 := by
      intro n
      induction n with
      | zero =>
        intro k fr1 M1 L hL hn hk ea hS1 hf
        refine sp_Lm _ hL ?_
        have ek : k = (iD x.1).length := by omega
        have hS1' := hS1
        obtain ⟨F, K, h0, -, ⟨t2, t4, t26, tw, ti, tp⟩, -⟩ := hS1'
        have h8 : M1 (B 8) = some (.inl (G.2.1 1, 48, .inl (F 8))) := h0.a 8 rfl
        have tl := (ti i x hx).2.2.1
        have hin : vp_in (nI i) 48 := nI_in (by omega) (by decide)
        refine sp_run hz _ _ e_Mod_readyOld_2 _ _ _ ?_
        simp only [k_Mod_readyOld_2, E_nil, E_iconst, E_bipush, E_sipush, E_ldc, E_ldc2, E_lconst, E_null, E_iload_n, E_lload_n, E_aload_n, E_istore_n, E_lstore_n, E_astore_n, E_astoreN_n, E_iload, E_lload, E_aload, E_istore, E_lstore, E_astore, E_astoreN, E_ldi, E_ldl, E_lda, E_ldN, E_iinc, E_iadd, E_isub, E_imul, E_iand, E_ior, E_ixor, E_ishl, E_ishr, E_idiv, E_irem, E_ineg, E_ladd, E_lsub, E_land, E_lor, E_lcmp, E_lshl, E_lshr, E_lushr, E_i2l, E_l2i, E_i2c, E_dupI, E_popI, E_dup_x1II, E_dup2II, E_dup_x1IR, E_dup2IR, E_dup_x1IN, E_dup2IN, E_dupR, E_popR, E_dup_x1RI, E_dup2RI, E_dup_x1RR, E_dup2RR, E_dup_x1RN, E_dup2RN, E_dupN, E_popN, E_dup_x1NI, E_dup2NI, E_dup_x1NR, E_dup2NR, E_dup_x1NN, E_dup2NN, E_goto, E_if_eq, E_if_ne, E_if_lt, E_if_ge, E_if_gt, E_if_le, E_ic_eq, E_ic_ne, E_ic_lt, E_ic_ge, E_ic_gt, E_ic_le, E_ifnull, E_ifnullN, E_ifnonnull, E_ifnonnullN, E_get, E_gf, E_xv, E_n0, E_ns, E_putI, E_putR, E_putN, E_pf, E_st0, E_sts, E_iaload, E_caload, E_laload, E_aaload, E_alen, E_iast, E_cast, E_last, E_xI, E_xJ, E_xQ, E_xN, E_lk, E_lkn, E_s1, E_s1h, E_s1I, E_s1R, E_s1N, E_s1L, E_s2, E_s2h, E_s2L, E_s2I, E_s2R, E_s2N, E_a1, E_a0, E_aI, E_aR, E_aN, E_aL, Option.isSome_some, eq_self, true_and, and_true, true_or, or_true, ne_eq, not_false_eq_true, not_true_eq_false, reduceIte, reduceCtorEq, Nat.reduceAdd, Nat.reduceBEq, Nat.reduceEqDiff, Option.toList_some, Option.toList_none, List.cons_append, List.nil_append, h0.o, h8, rn_8, hin, nI_clamp (show i < 2 ^ 31 by omega), tl]
        refine ⟨fun _ => ?_, fun h => absurd (by rw [ek]; exact Int32.le_refl _) h⟩
        rw [ek, List.drop_length, List.append_nil] at ea
        subst ea
        exact sp_vret hz d_Mod_readyOld_33 (Nat.le_refl _) (Nat.le_refl _) (hp M1 hS1 hf)
      | succ n ih =>
        intro k fr1 M1 L hL hn hk ea hS1 hf
        refine sp_Lm _ hL ?_
        have hklt : k < (iD x.1).length := by omega
        have hS1' := hS1
        obtain ⟨F, K, h0, -, ⟨t2, t4, t26, tw, ti, tp⟩, -⟩ := hS1'
        have h8 : M1 (B 8) = some (.inl (G.2.1 1, 48, .inl (F 8))) := h0.a 8 rfl
        have h9 : M1 (B 9) = some (.inl (G.2.1 0, 3072, .inl (F 9))) := h0.a 9 rfl
        have tl := (ti i x hx).2.2.1
        have td := (ti i x hx).2.2.2.2.2.2 k hklt
        have hcc := hw.2.2.2.2.1.at hklt
        have hin : vp_in (nI i) 48 := nI_in (by omega) (by decide)
        have e1 : (64 : Int32) * nI i + nI k = nI (64 * i + k) := by
          rw [show (64 : Int32) * nI i = nI (64 * i) from pk_mul 64 i]
          exact (Int32.ofNat_add _ _).symm
        have i1 : vp_in (nI (64 * i + k)) 3072 := nI_in (by omega) (by decide)
        have hfl : fr1.length + (iD x.1).length - k ≤ 300 := by
          have := congrArg List.length ea
          rw [List.length_append, List.length_append, List.length_drop] at this
          omega
        refine sp_run hz _ _ e_Mod_readyOld_2 _ _ _ ?_
        simp only [k_Mod_readyOld_2, E_nil, E_iconst, E_bipush, E_sipush, E_ldc, E_ldc2, E_lconst, E_null, E_iload_n, E_lload_n, E_aload_n, E_istore_n, E_lstore_n, E_astore_n, E_astoreN_n, E_iload, E_lload, E_aload, E_istore, E_lstore, E_astore, E_astoreN, E_ldi, E_ldl, E_lda, E_ldN, E_iinc, E_iadd, E_isub, E_imul, E_iand, E_ior, E_ixor, E_ishl, E_ishr, E_idiv, E_irem, E_ineg, E_ladd, E_lsub, E_land, E_lor, E_lcmp, E_lshl, E_lshr, E_lushr, E_i2l, E_l2i, E_i2c, E_dupI, E_popI, E_dup_x1II, E_dup2II, E_dup_x1IR, E_dup2IR, E_dup_x1IN, E_dup2IN, E_dupR, E_popR, E_dup_x1RI, E_dup2RI, E_dup_x1RR, E_dup2RR, E_dup_x1RN, E_dup2RN, E_dupN, E_popN, E_dup_x1NI, E_dup2NI, E_dup_x1NR, E_dup2NR, E_dup_x1NN, E_dup2NN, E_goto, E_if_eq, E_if_ne, E_if_lt, E_if_ge, E_if_gt, E_if_le, E_ic_eq, E_ic_ne, E_ic_lt, E_ic_ge, E_ic_gt, E_ic_le, E_ifnull, E_ifnullN, E_ifnonnull, E_ifnonnullN, E_get, E_gf, E_xv, E_n0, E_ns, E_putI, E_putR, E_putN, E_pf, E_st0, E_sts, E_iaload, E_caload, E_laload, E_aaload, E_alen, E_iast, E_cast, E_last, E_xI, E_xJ, E_xQ, E_xN, E_lk, E_lkn, E_s1, E_s1h, E_s1I, E_s1R, E_s1N, E_s1L, E_s2, E_s2h, E_s2L, E_s2I, E_s2R, E_s2N, E_a1, E_a0, E_aI, E_aR, E_aN, E_aL, Option.isSome_some, eq_self, true_and, and_true, true_or, or_true, ne_eq, not_false_eq_true, not_true_eq_false, reduceIte, reduceCtorEq, Nat.reduceAdd, Nat.reduceBEq, Nat.reduceEqDiff, Option.toList_some, Option.toList_none, List.cons_append, List.nil_append, h0.o, h8, h9, rn_8, rn_9, hin, nI_clamp (show i < 2 ^ 31 by omega), tl, e1, i1, nI_clamp (show 64 * i + k < 2 ^ 31 by omega), td]
        refine ⟨fun h => absurd ((nI_leI (by omega) (by omega)).mp h) (by omega), fun _ => ?_⟩
        refine sp_callV hz (c_Mod_ready l G) (ci := 8) (As := [.int (nI ((iD x.1).getD k 0))]) (rest := []) rfl w_Mod_253 (by decide) h0.o rfl (Nat.le_of_ble_eq_true rfl) d_Mod_readyOld_24 ⟨B, s, a, R, pg, ws, fr1, _, _, rfl, hS1, by omega, by omega, fun M2 hS2 hf2 => ?_⟩ rfl
        rw [up_up] at hS2
        refine sp_run hz _ _ e_Mod_readyOld_27 _ _ _ ?_
        simp only [k_Mod_readyOld_27, E_nil, E_iconst, E_bipush, E_sipush, E_ldc, E_ldc2, E_lconst, E_null, E_iload_n, E_lload_n, E_aload_n, E_istore_n, E_lstore_n, E_astore_n, E_astoreN_n, E_iload, E_lload, E_aload, E_istore, E_lstore, E_astore, E_astoreN, E_ldi, E_ldl, E_lda, E_ldN, E_iinc, E_iadd, E_isub, E_imul, E_iand, E_ior, E_ixor, E_ishl, E_ishr, E_idiv, E_irem, E_ineg, E_ladd, E_lsub, E_land, E_lor, E_lcmp, E_lshl, E_lshr, E_lushr, E_i2l, E_l2i, E_i2c, E_dupI, E_popI, E_dup_x1II, E_dup2II, E_dup_x1IR, E_dup2IR, E_dup_x1IN, E_dup2IN, E_dupR, E_popR, E_dup_x1RI, E_dup2RI, E_dup_x1RR, E_dup2RR, E_dup_x1RN, E_dup2RN, E_dupN, E_popN, E_dup_x1NI, E_dup2NI, E_dup_x1NR, E_dup2NR, E_dup_x1NN, E_dup2NN, E_goto, E_if_eq, E_if_ne, E_if_lt, E_if_ge, E_if_gt, E_if_le, E_ic_eq, E_ic_ne, E_ic_lt, E_ic_ge, E_ic_gt, E_ic_le, E_ifnull, E_ifnullN, E_ifnonnull, E_ifnonnullN, E_get, E_gf, E_xv, E_n0, E_ns, E_putI, E_putR, E_putN, E_pf, E_st0, E_sts, E_iaload, E_caload, E_laload, E_aaload, E_alen, E_iast, E_cast, E_last, E_xI, E_xJ, E_xQ, E_xN, E_lk, E_lkn, E_s1, E_s1h, E_s1I, E_s1R, E_s1N, E_s1L, E_s2, E_s2h, E_s2L, E_s2I, E_s2R, E_s2N, E_a1, E_a0, E_aI, E_aR, E_aN, E_aL, Option.isSome_some, eq_self, true_and, and_true, true_or, or_true, ne_eq, not_false_eq_true, not_true_eq_false, reduceIte, reduceCtorEq, Nat.reduceAdd, Nat.reduceBEq, Nat.reduceEqDiff, Option.toList_some, Option.toList_none, List.cons_append, List.nil_append, nI_1]
        refine ih (k + 1) (fr1 ++ [(iD x.1).getD k 0]) M2 _ (by simp) (by omega) (by omega) ?_ (by rw [List.length_append]; exact hS2) (hf.trans hf2)
        rw [← ea, pu_drop hklt, List.append_assoc]
        rfl
    refine sp_run hz _ _ e_Mod_readyOld_0 _ _ _ ?_
    simp only [k_Mod_readyOld_0, E_nil, E_iconst, E_bipush, E_sipush, E_ldc, E_ldc2, E_lconst, E_null, E_iload_n, E_lload_n, E_aload_n, E_istore_n, E_lstore_n, E_astore_n, E_astoreN_n, E_iload, E_lload, E_aload, E_istore, E_lstore, E_astore, E_astoreN, E_ldi, E_ldl, E_lda, E_ldN, E_iinc, E_iadd, E_isub, E_imul, E_iand, E_ior, E_ixor, E_ishl, E_ishr, E_idiv, E_irem, E_ineg, E_ladd, E_lsub, E_land, E_lor, E_lcmp, E_lshl, E_lshr, E_lushr, E_i2l, E_l2i, E_i2c, E_dupI, E_popI, E_dup_x1II, E_dup2II, E_dup_x1IR, E_dup2IR, E_dup_x1IN, E_dup2IN, E_dupR, E_popR, E_dup_x1RI, E_dup2RI, E_dup_x1RR, E_dup2RR, E_dup_x1RN, E_dup2RN, E_dupN, E_popN, E_dup_x1NI, E_dup2NI, E_dup_x1NR, E_dup2NR, E_dup_x1NN, E_dup2NN, E_goto, E_if_eq, E_if_ne, E_if_lt, E_if_ge, E_if_gt, E_if_le, E_ic_eq, E_ic_ne, E_ic_lt, E_ic_ge, E_ic_gt, E_ic_le, E_ifnull, E_ifnullN, E_ifnonnull, E_ifnonnullN, E_get, E_gf, E_xv, E_n0, E_ns, E_putI, E_putR, E_putN, E_pf, E_st0, E_sts, E_iaload, E_caload, E_laload, E_aaload, E_alen, E_iast, E_cast, E_last, E_xI, E_xJ, E_xQ, E_xN, E_lk, E_lkn, E_s1, E_s1h, E_s1I, E_s1R, E_s1N, E_s1L, E_s2, E_s2h, E_s2L, E_s2I, E_s2R, E_s2N, E_a1, E_a0, E_aI, E_aR, E_aN, E_aL, Option.isSome_some, eq_self, true_and, and_true, true_or, or_true, ne_eq, not_false_eq_true, not_true_eq_false, reduceIte, reduceCtorEq, Nat.reduceAdd, Nat.reduceBEq, Nat.reduceEqDiff, Option.toList_some, Option.toList_none, List.cons_append, List.nil_append]
    have hV : up V 25 fr.length = V := by rw [← hS.bl.1.2.2.2.2]; exact up_same V 25
    exact loop _ 0 fr M _ (by simp; rfl) rfl (Nat.zero_le _) (by rw [List.drop_zero]) (by rw [hV]; exact hS) (rfr.refl B M)
theorem seg_drop : ∀ (n : Nat) (s : List Nat) (st : Nat), s.length - st = n → st ≤ s.length → pu_seg s st n = s.drop st
  | 0, s, st, h, h2 => by
    rw [pu_seg_0, List.drop_eq_nil_of_le (by omega)]
  | n + 1, s, st, h, h2 => by
    have e : ∀ m, pu_seg s st (m + 1) = s.getD st 0 :: pu_seg s (st + 1) m := fun m => by
      unfold pu_seg
      rw [List.range_succ_eq_map, List.map_cons, List.map_map]
      refine congrArg _ (List.map_congr_left fun i _ => ?_)
      show s.getD (st + (i + 1)) 0 = _
      rw [show st + (i + 1) = st + 1 + i from by omega]
    rw [e, seg_drop n s (st + 1) (by omega) (by omega), ← pu_drop (by omega)]
theorem lnD_drop (s : List Nat) (ce : Nat) : lnD s ce = s.drop (ce + 1) := by
  unfold lnD
  by_cases h : ce + 1 ≤ s.length
  · exact seg_drop _ s (ce + 1) rfl h
  · rw [show s.length - (ce + 1) = 0 from by omega, pu_seg_0, List.drop_eq_nil_of_le (by omega)]
def T_Mod_readyNew (G : sp_G) : sp_T := fun av M Post => ∃ B s a R pg ws fr V, av = [.ref (B 0)] ∧ rS G M B s a R pg ws fr V ∧ V 24 < 1000 ∧ fr.length + s.length ≤ 300 ∧ ∀ M', rS G M' B s a R pg ws (fr ++ lnD s (V 24)) (up V 25 (fr ++ lnD s (V 24)).length) → rfr B M M' → Post none M'
set_option maxHeartbeats 4000000 in
set_option maxRecDepth 100000 in
theorem c_Mod_readyNew (l : Launch) (G : sp_G) : sp_Met l G y_Mod_readyNew b_Mod_readyNew 2 none { frames := 1, locals := 21 } (T_Mod_readyNew G) := by
  refine sp_entry (by decide) (fun av M Post h => ?_) (fun z M av Post hz _ hT => ?_)
  · obtain ⟨B, s, a, R, pg, ws, fr, V, rfl, -⟩ := h
    exact Nat.le_of_ble_eq_true rfl
  · obtain ⟨B, s, a, R, pg, ws, fr, V, rfl, hS, hv, hl, hp⟩ := hT
    rw [lnD_drop] at hp
    have b1 : s.length ≤ 140 := hS.bl.2.1
    have hch := hS.ch
    have loop : ∀ n k (fr1 : List Nat) M1 (L : sp_L), (∀ q ∈ [(0, .ref (B 0)), (1, .int (nI k))], q ∈ L) → s.length - k = n → k ≤ 1000 → fr1 ++ s.drop k = fr ++ s.drop (V 24 + 1) → rS G M1 B s a R pg ws fr1 (up V 25 fr1.length) → rfr B M M1 → sp_W z G M (sp_Q z G M Post 0 0) 2 0 0 7 L [] M1 := by
      intro n
      induction n with
      | zero =>
        intro k fr1 M1 L hL hn hk ea hS1 hf
        refine sp_Lm _ hL ?_
        have v1 : up V 25 fr1.length 1 = s.length := hS1.bl.1.1
        refine sp_run hz _ _ e_Mod_readyNew_7 _ _ _ ?_
        simp only [k_Mod_readyNew_7, E_nil, E_iconst, E_bipush, E_sipush, E_ldc, E_ldc2, E_lconst, E_null, E_iload_n, E_lload_n, E_aload_n, E_istore_n, E_lstore_n, E_astore_n, E_astoreN_n, E_iload, E_lload, E_aload, E_istore, E_lstore, E_astore, E_astoreN, E_ldi, E_ldl, E_lda, E_ldN, E_iinc, E_iadd, E_isub, E_imul, E_iand, E_ior, E_ixor, E_ishl, E_ishr, E_idiv, E_irem, E_ineg, E_ladd, E_lsub, E_land, E_lor, E_lcmp, E_lshl, E_lshr, E_lushr, E_i2l, E_l2i, E_i2c, E_dupI, E_popI, E_dup_x1II, E_dup2II, E_dup_x1IR, E_dup2IR, E_dup_x1IN, E_dup2IN, E_dupR, E_popR, E_dup_x1RI, E_dup2RI, E_dup_x1RR, E_dup2RR, E_dup_x1RN, E_dup2RN, E_dupN, E_popN, E_dup_x1NI, E_dup2NI, E_dup_x1NR, E_dup2NR, E_dup_x1NN, E_dup2NN, E_goto, E_if_eq, E_if_ne, E_if_lt, E_if_ge, E_if_gt, E_if_le, E_ic_eq, E_ic_ne, E_ic_lt, E_ic_ge, E_ic_gt, E_ic_le, E_ifnull, E_ifnullN, E_ifnonnull, E_ifnonnullN, E_get, E_gf, E_xv, E_n0, E_ns, E_putI, E_putR, E_putN, E_pf, E_st0, E_sts, E_iaload, E_caload, E_laload, E_aaload, E_alen, E_iast, E_cast, E_last, E_xI, E_xJ, E_xQ, E_xN, E_lk, E_lkn, E_s1, E_s1h, E_s1I, E_s1R, E_s1N, E_s1L, E_s2, E_s2h, E_s2L, E_s2I, E_s2R, E_s2N, E_a1, E_a0, E_aI, E_aR, E_aN, E_aL, Option.isSome_some, eq_self, true_and, and_true, true_or, or_true, ne_eq, not_false_eq_true, not_true_eq_false, reduceIte, reduceCtorEq, Nat.reduceAdd, Nat.reduceBEq, Nat.reduceEqDiff, Option.toList_some, Option.toList_none, List.cons_append, List.nil_append, hS1.o, rn_1, v1]
        refine ⟨fun _ => ?_, fun h => absurd ((nI_leI (by omega) (by omega)).mpr (by omega)) h⟩
        rw [List.drop_eq_nil_of_le (show s.length ≤ k by omega), List.append_nil] at ea
        subst ea
        exact sp_vret hz d_Mod_readyNew_31 (Nat.le_refl _) (Nat.le_refl _) (hp M1 hS1 hf)
      | succ n ih =>
        intro k fr1 M1 L hL hn hk ea hS1 hf
        refine sp_Lm _ hL ?_
        have hklt : k < s.length := by omega
        have hS1' := hS1
        obtain ⟨F, K, h0, ⟨v1, -⟩, ⟨t2, t4, t26, tw, ti, tp⟩, -⟩ := hS1'
        have h2 : M1 (B 2) = some (.inl (G.2.1 0, 140, .inl (F 2))) := h0.a 2 rfl
        have hcc := hch.at hklt
        have hin : vp_in (nI k) 140 := nI_in (by omega) (by decide)
        have hfl : fr1.length + (s.length - k) ≤ 300 := by
          have := congrArg List.length ea
          rw [List.length_append, List.length_append, List.length_drop, List.length_drop] at this
          omega
        refine sp_run hz _ _ e_Mod_readyNew_7 _ _ _ ?_
        simp only [k_Mod_readyNew_7, E_nil, E_iconst, E_bipush, E_sipush, E_ldc, E_ldc2, E_lconst, E_null, E_iload_n, E_lload_n, E_aload_n, E_istore_n, E_lstore_n, E_astore_n, E_astoreN_n, E_iload, E_lload, E_aload, E_istore, E_lstore, E_astore, E_astoreN, E_ldi, E_ldl, E_lda, E_ldN, E_iinc, E_iadd, E_isub, E_imul, E_iand, E_ior, E_ixor, E_ishl, E_ishr, E_idiv, E_irem, E_ineg, E_ladd, E_lsub, E_land, E_lor, E_lcmp, E_lshl, E_lshr, E_lushr, E_i2l, E_l2i, E_i2c, E_dupI, E_popI, E_dup_x1II, E_dup2II, E_dup_x1IR, E_dup2IR, E_dup_x1IN, E_dup2IN, E_dupR, E_popR, E_dup_x1RI, E_dup2RI, E_dup_x1RR, E_dup2RR, E_dup_x1RN, E_dup2RN, E_dupN, E_popN, E_dup_x1NI, E_dup2NI, E_dup_x1NR, E_dup2NR, E_dup_x1NN, E_dup2NN, E_goto, E_if_eq, E_if_ne, E_if_lt, E_if_ge, E_if_gt, E_if_le, E_ic_eq, E_ic_ne, E_ic_lt, E_ic_ge, E_ic_gt, E_ic_le, E_ifnull, E_ifnullN, E_ifnonnull, E_ifnonnullN, E_get, E_gf, E_xv, E_n0, E_ns, E_putI, E_putR, E_putN, E_pf, E_st0, E_sts, E_iaload, E_caload, E_laload, E_aaload, E_alen, E_iast, E_cast, E_last, E_xI, E_xJ, E_xQ, E_xN, E_lk, E_lkn, E_s1, E_s1h, E_s1I, E_s1R, E_s1N, E_s1L, E_s2, E_s2h, E_s2L, E_s2I, E_s2R, E_s2N, E_a1, E_a0, E_aI, E_aR, E_aN, E_aL, Option.isSome_some, eq_self, true_and, and_true, true_or, or_true, ne_eq, not_false_eq_true, not_true_eq_false, reduceIte, reduceCtorEq, Nat.reduceAdd, Nat.reduceBEq, Nat.reduceEqDiff, Option.toList_some, Option.toList_none, List.cons_append, List.nil_append, h0.o, h2, rn_1, rn_2, v1, hin, nI_clamp (show k < 2 ^ 31 by omega), t2 k hklt]
        refine ⟨fun h => absurd ((nI_leI (by omega) (by omega)).mp h) (by omega), fun _ => ?_⟩
        refine sp_callV hz (c_Mod_ready l G) (ci := 8) (As := [.int (nI (s.getD k 0))]) (rest := []) rfl w_Mod_253 (by decide) h0.o rfl (Nat.le_of_ble_eq_true rfl) d_Mod_readyNew_22 ⟨B, s, a, R, pg, ws, fr1, _, _, rfl, hS1, by omega, by omega, fun M2 hS2 hf2 => ?_⟩ rfl
        rw [up_up] at hS2
        refine sp_run hz _ _ e_Mod_readyNew_25 _ _ _ ?_
        simp only [k_Mod_readyNew_25, E_nil, E_iconst, E_bipush, E_sipush, E_ldc, E_ldc2, E_lconst, E_null, E_iload_n, E_lload_n, E_aload_n, E_istore_n, E_lstore_n, E_astore_n, E_astoreN_n, E_iload, E_lload, E_aload, E_istore, E_lstore, E_astore, E_astoreN, E_ldi, E_ldl, E_lda, E_ldN, E_iinc, E_iadd, E_isub, E_imul, E_iand, E_ior, E_ixor, E_ishl, E_ishr, E_idiv, E_irem, E_ineg, E_ladd, E_lsub, E_land, E_lor, E_lcmp, E_lshl, E_lshr, E_lushr, E_i2l, E_l2i, E_i2c, E_dupI, E_popI, E_dup_x1II, E_dup2II, E_dup_x1IR, E_dup2IR, E_dup_x1IN, E_dup2IN, E_dupR, E_popR, E_dup_x1RI, E_dup2RI, E_dup_x1RR, E_dup2RR, E_dup_x1RN, E_dup2RN, E_dupN, E_popN, E_dup_x1NI, E_dup2NI, E_dup_x1NR, E_dup2NR, E_dup_x1NN, E_dup2NN, E_goto, E_if_eq, E_if_ne, E_if_lt, E_if_ge, E_if_gt, E_if_le, E_ic_eq, E_ic_ne, E_ic_lt, E_ic_ge, E_ic_gt, E_ic_le, E_ifnull, E_ifnullN, E_ifnonnull, E_ifnonnullN, E_get, E_gf, E_xv, E_n0, E_ns, E_putI, E_putR, E_putN, E_pf, E_st0, E_sts, E_iaload, E_caload, E_laload, E_aaload, E_alen, E_iast, E_cast, E_last, E_xI, E_xJ, E_xQ, E_xN, E_lk, E_lkn, E_s1, E_s1h, E_s1I, E_s1R, E_s1N, E_s1L, E_s2, E_s2h, E_s2L, E_s2I, E_s2R, E_s2N, E_a1, E_a0, E_aI, E_aR, E_aN, E_aL, Option.isSome_some, eq_self, true_and, and_true, true_or, or_true, ne_eq, not_false_eq_true, not_true_eq_false, reduceIte, reduceCtorEq, Nat.reduceAdd, Nat.reduceBEq, Nat.reduceEqDiff, Option.toList_some, Option.toList_none, List.cons_append, List.nil_append, nI_1]
        refine ih (k + 1) (fr1 ++ [s.getD k 0]) M2 _ (by simp) (by omega) (by omega) ?_ (by rw [List.length_append]; exact hS2) (hf.trans hf2)
        rw [← ea, pu_drop hklt, List.append_assoc]
        rfl
    refine sp_run hz _ _ e_Mod_readyNew_0 _ _ _ ?_
    simp only [k_Mod_readyNew_0, E_nil, E_iconst, E_bipush, E_sipush, E_ldc, E_ldc2, E_lconst, E_null, E_iload_n, E_lload_n, E_aload_n, E_istore_n, E_lstore_n, E_astore_n, E_astoreN_n, E_iload, E_lload, E_aload, E_istore, E_lstore, E_astore, E_astoreN, E_ldi, E_ldl, E_lda, E_ldN, E_iinc, E_iadd, E_isub, E_imul, E_iand, E_ior, E_ixor, E_ishl, E_ishr, E_idiv, E_irem, E_ineg, E_ladd, E_lsub, E_land, E_lor, E_lcmp, E_lshl, E_lshr, E_lushr, E_i2l, E_l2i, E_i2c, E_dupI, E_popI, E_dup_x1II, E_dup2II, E_dup_x1IR, E_dup2IR, E_dup_x1IN, E_dup2IN, E_dupR, E_popR, E_dup_x1RI, E_dup2RI, E_dup_x1RR, E_dup2RR, E_dup_x1RN, E_dup2RN, E_dupN, E_popN, E_dup_x1NI, E_dup2NI, E_dup_x1NR, E_dup2NR, E_dup_x1NN, E_dup2NN, E_goto, E_if_eq, E_if_ne, E_if_lt, E_if_ge, E_if_gt, E_if_le, E_ic_eq, E_ic_ne, E_ic_lt, E_ic_ge, E_ic_gt, E_ic_le, E_ifnull, E_ifnullN, E_ifnonnull, E_ifnonnullN, E_get, E_gf, E_xv, E_n0, E_ns, E_putI, E_putR, E_putN, E_pf, E_st0, E_sts, E_iaload, E_caload, E_laload, E_aaload, E_alen, E_iast, E_cast, E_last, E_xI, E_xJ, E_xQ, E_xN, E_lk, E_lkn, E_s1, E_s1h, E_s1I, E_s1R, E_s1N, E_s1L, E_s2, E_s2h, E_s2L, E_s2I, E_s2R, E_s2N, E_a1, E_a0, E_aI, E_aR, E_aN, E_aL, Option.isSome_some, eq_self, true_and, and_true, true_or, or_true, ne_eq, not_false_eq_true, not_true_eq_false, reduceIte, reduceCtorEq, Nat.reduceAdd, Nat.reduceBEq, Nat.reduceEqDiff, Option.toList_some, Option.toList_none, List.cons_append, List.nil_append, hS.o, rn_24, nI_1]
    have hV : up V 25 fr.length = V := by rw [← hS.bl.1.2.2.2.2]; exact up_same V 25
    exact loop _ (V 24 + 1) fr M _ (by simp) rfl (by omega) rfl (by rw [hV]; exact hS) (rfr.refl B M)
def T_Mod_timeOf (G : sp_G) : sp_T := fun av M Post => ∃ B s a R pg ws fr V v, av = [.ref (B 0), .int v] ∧ rS G M B s a R pg ws fr V ∧ (v ≤ 0 → Post (some (.int 0)) M) ∧ (0 < v → Post (some (.int (nI (V 14) + v))) M)
set_option maxHeartbeats 4000000 in
set_option maxRecDepth 100000 in
theorem c_Mod_timeOf (l : Launch) (G : sp_G) : sp_Met l G y_Mod_timeOf b_Mod_timeOf 2 (some .int) {} (T_Mod_timeOf G) := by
  refine sp_entry (by decide) (fun av M Post h => ?_) (fun z M av Post hz _ hT => ?_)
  · obtain ⟨B, s, a, R, pg, ws, fr, V, v, rfl, -⟩ := h
    exact Nat.le_of_ble_eq_true rfl
  · obtain ⟨B, s, a, R, pg, ws, fr, V, v, rfl, hS, p0, p1⟩ := hT
    refine sp_run hz _ _ e_Mod_timeOf_0 _ _ _ ?_
    simp only [k_Mod_timeOf_0, E_nil, E_iconst, E_bipush, E_sipush, E_ldc, E_ldc2, E_lconst, E_null, E_iload_n, E_lload_n, E_aload_n, E_istore_n, E_lstore_n, E_astore_n, E_astoreN_n, E_iload, E_lload, E_aload, E_istore, E_lstore, E_astore, E_astoreN, E_ldi, E_ldl, E_lda, E_ldN, E_iinc, E_iadd, E_isub, E_imul, E_iand, E_ior, E_ixor, E_ishl, E_ishr, E_idiv, E_irem, E_ineg, E_ladd, E_lsub, E_land, E_lor, E_lcmp, E_lshl, E_lshr, E_lushr, E_i2l, E_l2i, E_i2c, E_dupI, E_popI, E_dup_x1II, E_dup2II, E_dup_x1IR, E_dup2IR, E_dup_x1IN, E_dup2IN, E_dupR, E_popR, E_dup_x1RI, E_dup2RI, E_dup_x1RR, E_dup2RR, E_dup_x1RN, E_dup2RN, E_dupN, E_popN, E_dup_x1NI, E_dup2NI, E_dup_x1NR, E_dup2NR, E_dup_x1NN, E_dup2NN, E_goto, E_if_eq, E_if_ne, E_if_lt, E_if_ge, E_if_gt, E_if_le, E_ic_eq, E_ic_ne, E_ic_lt, E_ic_ge, E_ic_gt, E_ic_le, E_ifnull, E_ifnullN, E_ifnonnull, E_ifnonnullN, E_get, E_gf, E_xv, E_n0, E_ns, E_putI, E_putR, E_putN, E_pf, E_st0, E_sts, E_iaload, E_caload, E_laload, E_aaload, E_alen, E_iast, E_cast, E_last, E_xI, E_xJ, E_xQ, E_xN, E_lk, E_lkn, E_s1, E_s1h, E_s1I, E_s1R, E_s1N, E_s1L, E_s2, E_s2h, E_s2L, E_s2I, E_s2R, E_s2N, E_a1, E_a0, E_aI, E_aR, E_aN, E_aL, Option.isSome_some, eq_self, true_and, and_true, true_or, or_true, ne_eq, not_false_eq_true, not_true_eq_false, reduceIte, reduceCtorEq, Nat.reduceAdd, Nat.reduceBEq, Nat.reduceEqDiff, Option.toList_some, Option.toList_none, List.cons_append, List.nil_append]
    refine ⟨fun h => ?_, fun h => sp_iret hz d_Mod_timeOf_14 (Nat.le_refl _) (Nat.le_refl _) (p0 (Int32.not_lt.mp h))⟩
    refine sp_run hz _ _ e_Mod_timeOf_8 _ _ _ ?_
    simp only [k_Mod_timeOf_8, E_nil, E_iconst, E_bipush, E_sipush, E_ldc, E_ldc2, E_lconst, E_null, E_iload_n, E_lload_n, E_aload_n, E_istore_n, E_lstore_n, E_astore_n, E_astoreN_n, E_iload, E_lload, E_aload, E_istore, E_lstore, E_astore, E_astoreN, E_ldi, E_ldl, E_lda, E_ldN, E_iinc, E_iadd, E_isub, E_imul, E_iand, E_ior, E_ixor, E_ishl, E_ishr, E_idiv, E_irem, E_ineg, E_ladd, E_lsub, E_land, E_lor, E_lcmp, E_lshl, E_lshr, E_lushr, E_i2l, E_l2i, E_i2c, E_dupI, E_popI, E_dup_x1II, E_dup2II, E_dup_x1IR, E_dup2IR, E_dup_x1IN, E_dup2IN, E_dupR, E_popR, E_dup_x1RI, E_dup2RI, E_dup_x1RR, E_dup2RR, E_dup_x1RN, E_dup2RN, E_dupN, E_popN, E_dup_x1NI, E_dup2NI, E_dup_x1NR, E_dup2NR, E_dup_x1NN, E_dup2NN, E_goto, E_if_eq, E_if_ne, E_if_lt, E_if_ge, E_if_gt, E_if_le, E_ic_eq, E_ic_ne, E_ic_lt, E_ic_ge, E_ic_gt, E_ic_le, E_ifnull, E_ifnullN, E_ifnonnull, E_ifnonnullN, E_get, E_gf, E_xv, E_n0, E_ns, E_putI, E_putR, E_putN, E_pf, E_st0, E_sts, E_iaload, E_caload, E_laload, E_aaload, E_alen, E_iast, E_cast, E_last, E_xI, E_xJ, E_xQ, E_xN, E_lk, E_lkn, E_s1, E_s1h, E_s1I, E_s1R, E_s1N, E_s1L, E_s2, E_s2h, E_s2L, E_s2I, E_s2R, E_s2N, E_a1, E_a0, E_aI, E_aR, E_aN, E_aL, Option.isSome_some, eq_self, true_and, and_true, true_or, or_true, ne_eq, not_false_eq_true, not_true_eq_false, reduceIte, reduceCtorEq, Nat.reduceAdd, Nat.reduceBEq, Nat.reduceEqDiff, Option.toList_some, Option.toList_none, List.cons_append, List.nil_append, hS.o, rn_14]
    exact sp_iret hz d_Mod_timeOf_14 (Nat.le_refl _) (Nat.le_refl _) (p1 h)
