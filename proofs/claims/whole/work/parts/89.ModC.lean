/-! The model's calls on time and numbers. -/
def exq (t : Nat) (x : It) : Bool := decide (t < iG x)
theorem gz_ex {g t : Nat} (hg0 : 0 < g) (hg : g < 2 ^ 31) (ht : t < 2 ^ 30) : (¬ nI (gz g) ≤ 0 ∧ ¬ nI t < nI (gz g)) ↔ ¬ t < g := by
  unfold gz
  by_cases e : g = 2147483647
  · rw [if_pos e]
    refine ⟨fun h => absurd (by decide) h.1, fun h => absurd (by omega) h⟩
  · rw [if_neg e]
    refine ⟨fun h q => h.2 ((nI_ltI (by omega) (by omega)).mpr q), fun h => ⟨fun q => ?_, fun q => h ((nI_ltI (by omega) (by omega)).mp q)⟩⟩
    have := (nI_leI (b := 0) (by omega) (by decide)).mp q
    omega
def T_Mod_tick (G : sp_G) : sp_T := fun av M Post => ∃ B s a L pg ws fr V v, av = [.ref (B 0), .int v] ∧ rA G M B s a L pg ws fr V ∧ ((v < 0 ∨ ∃ n, n < 2 ^ 31 ∧ v = nI n ∧ 1000000 < n) → ∀ M', rA G M' B s a L pg ws fr (up V 0 1) → rfr B M M' → Post none M') ∧ (∀ n, n ≤ 1000000 → v = nI n → V 14 + n < 2 ^ 30 ∧ ∀ M' V', rA G M' B s a (L.filter (exq (V 14 + n))) pg ws fr V' → V' 0 = 0 → V' 14 = V 14 + n → V' 18 = V 18 + (L.length - (L.filter (exq (V 14 + n))).length) → vsm V V' [0, 5, 14, 18] → rfr B M M' → Post none M')
set_option maxHeartbeats 4000000 in
set_option maxRecDepth 100000 in
theorem c_Mod_tick (l : Launch) (G : sp_G) : sp_Met l G y_Mod_tick b_Mod_tick 3 none { frames := 2, locals := 45 } (T_Mod_tick G) := by
  refine sp_entry (by decide) (fun av M Post h => ?_) (fun z M av Post hz _ hT => ?_)
  · obtain ⟨B, s, a, L, pg, ws, fr, V, v, rfl, -⟩ := h
    exact Nat.le_of_ble_eq_true rfl
  · obtain ⟨B, s, a, L, pg, ws, fr, V, v, rfl, ⟨R, hS, hsr, hkd⟩, p1, p0⟩ := hT
    have bad : ∀ (L0 : sp_L), (∀ q ∈ [(0, .ref (B 0)), (1, .int v)], q ∈ L0) → (v < 0 ∨ ∃ n, n < 2 ^ 31 ∧ v = nI n ∧ 1000000 < n) → sp_W z G M (sp_Q z G M Post 0 0) 3 0 0 12 L0 [.ref (B 0)] M := by
      intro L0 hL0 hb
      refine sp_Lm _ hL0 ?_
      refine sp_run hz _ _ e_Mod_tick_12 _ _ _ ?_
      simp only [k_Mod_tick_12, E_nil, E_iconst, E_bipush, E_sipush, E_ldc, E_ldc2, E_lconst, E_null, E_iload_n, E_lload_n, E_aload_n, E_istore_n, E_lstore_n, E_astore_n, E_astoreN_n, E_iload, E_lload, E_aload, E_istore, E_lstore, E_astore, E_astoreN, E_ldi, E_ldl, E_lda, E_ldN, E_iinc, E_iadd, E_isub, E_imul, E_iand, E_ior, E_ixor, E_ishl, E_ishr, E_idiv, E_irem, E_ineg, E_ladd, E_lsub, E_land, E_lor, E_lcmp, E_lshl, E_lshr, E_lushr, E_i2l, E_l2i, E_i2c, E_dupI, E_popI, E_dup_x1II, E_dup2II, E_dup_x1IR, E_dup2IR, E_dup_x1IN, E_dup2IN, E_dupR, E_popR, E_dup_x1RI, E_dup2RI, E_dup_x1RR, E_dup2RR, E_dup_x1RN, E_dup2RN, E_dupN, E_popN, E_dup_x1NI, E_dup2NI, E_dup_x1NR, E_dup2NR, E_dup_x1NN, E_dup2NN, E_goto, E_if_eq, E_if_ne, E_if_lt, E_if_ge, E_if_gt, E_if_le, E_ic_eq, E_ic_ne, E_ic_lt, E_ic_ge, E_ic_gt, E_ic_le, E_ifnull, E_ifnullN, E_ifnonnull, E_ifnonnullN, E_get, E_gf, E_xv, E_n0, E_ns, E_putI, E_putR, E_putN, E_pf, E_st0, E_sts, E_iaload, E_caload, E_laload, E_aaload, E_alen, E_iast, E_cast, E_last, E_xI, E_xJ, E_xQ, E_xN, E_lk, E_lkn, E_s1, E_s1h, E_s1I, E_s1R, E_s1N, E_s1L, E_s2, E_s2h, E_s2L, E_s2I, E_s2R, E_s2N, E_a1, E_a0, E_aI, E_aR, E_aN, E_aL, Option.isSome_some, eq_self, true_and, and_true, true_or, or_true, ne_eq, not_false_eq_true, not_true_eq_false, reduceIte, reduceCtorEq, Nat.reduceAdd, Nat.reduceBEq, Nat.reduceEqDiff, Option.toList_some, Option.toList_none, List.cons_append, List.nil_append]
      refine sp_run hz _ _ e_Mod_tick_17 _ _ _ ?_
      simp only [k_Mod_tick_17, E_nil, E_iconst, E_bipush, E_sipush, E_ldc, E_ldc2, E_lconst, E_null, E_iload_n, E_lload_n, E_aload_n, E_istore_n, E_lstore_n, E_astore_n, E_astoreN_n, E_iload, E_lload, E_aload, E_istore, E_lstore, E_astore, E_astoreN, E_ldi, E_ldl, E_lda, E_ldN, E_iinc, E_iadd, E_isub, E_imul, E_iand, E_ior, E_ixor, E_ishl, E_ishr, E_idiv, E_irem, E_ineg, E_ladd, E_lsub, E_land, E_lor, E_lcmp, E_lshl, E_lshr, E_lushr, E_i2l, E_l2i, E_i2c, E_dupI, E_popI, E_dup_x1II, E_dup2II, E_dup_x1IR, E_dup2IR, E_dup_x1IN, E_dup2IN, E_dupR, E_popR, E_dup_x1RI, E_dup2RI, E_dup_x1RR, E_dup2RR, E_dup_x1RN, E_dup2RN, E_dupN, E_popN, E_dup_x1NI, E_dup2NI, E_dup_x1NR, E_dup2NR, E_dup_x1NN, E_dup2NN, E_goto, E_if_eq, E_if_ne, E_if_lt, E_if_ge, E_if_gt, E_if_le, E_ic_eq, E_ic_ne, E_ic_lt, E_ic_ge, E_ic_gt, E_ic_le, E_ifnull, E_ifnullN, E_ifnonnull, E_ifnonnullN, E_get, E_gf, E_xv, E_n0, E_ns, E_putI, E_putR, E_putN, E_pf, E_st0, E_sts, E_iaload, E_caload, E_laload, E_aaload, E_alen, E_iast, E_cast, E_last, E_xI, E_xJ, E_xQ, E_xN, E_lk, E_lkn, E_s1, E_s1h, E_s1I, E_s1R, E_s1N, E_s1L, E_s2, E_s2h, E_s2L, E_s2I, E_s2R, E_s2N, E_a1, E_a0, E_aI, E_aR, E_aN, E_aL, Option.isSome_some, eq_self, true_and, and_true, true_or, or_true, ne_eq, not_false_eq_true, not_true_eq_false, reduceIte, reduceCtorEq, Nat.reduceAdd, Nat.reduceBEq, Nat.reduceEqDiff, Option.toList_some, Option.toList_none, List.cons_append, List.nil_append, hS.o, sp_u_s, rn_0, show ((rL B V).set 0 (.int 1)) = rL B (up V 0 1) from rfl, up_s]
      refine ⟨fun h => absurd h (by decide), fun _ => ?_⟩
      exact sp_vret hz d_Mod_tick_27 (Nat.le_refl _) (Nat.le_refl _) (p1 hb _ ⟨R, hS.v _ rfl rfl rfl rfl rfl, hsr, hkd⟩ ((rfr.refl B M).u (j := 0) rfl))
    refine sp_run hz _ _ e_Mod_tick_0 _ _ _ ?_
    simp only [k_Mod_tick_0, E_nil, E_iconst, E_bipush, E_sipush, E_ldc, E_ldc2, E_lconst, E_null, E_iload_n, E_lload_n, E_aload_n, E_istore_n, E_lstore_n, E_astore_n, E_astoreN_n, E_iload, E_lload, E_aload, E_istore, E_lstore, E_astore, E_astoreN, E_ldi, E_ldl, E_lda, E_ldN, E_iinc, E_iadd, E_isub, E_imul, E_iand, E_ior, E_ixor, E_ishl, E_ishr, E_idiv, E_irem, E_ineg, E_ladd, E_lsub, E_land, E_lor, E_lcmp, E_lshl, E_lshr, E_lushr, E_i2l, E_l2i, E_i2c, E_dupI, E_popI, E_dup_x1II, E_dup2II, E_dup_x1IR, E_dup2IR, E_dup_x1IN, E_dup2IN, E_dupR, E_popR, E_dup_x1RI, E_dup2RI, E_dup_x1RR, E_dup2RR, E_dup_x1RN, E_dup2RN, E_dupN, E_popN, E_dup_x1NI, E_dup2NI, E_dup_x1NR, E_dup2NR, E_dup_x1NN, E_dup2NN, E_goto, E_if_eq, E_if_ne, E_if_lt, E_if_ge, E_if_gt, E_if_le, E_ic_eq, E_ic_ne, E_ic_lt, E_ic_ge, E_ic_gt, E_ic_le, E_ifnull, E_ifnullN, E_ifnonnull, E_ifnonnullN, E_get, E_gf, E_xv, E_n0, E_ns, E_putI, E_putR, E_putN, E_pf, E_st0, E_sts, E_iaload, E_caload, E_laload, E_aaload, E_alen, E_iast, E_cast, E_last, E_xI, E_xJ, E_xQ, E_xN, E_lk, E_lkn, E_s1, E_s1h, E_s1I, E_s1R, E_s1N, E_s1L, E_s2, E_s2h, E_s2L, E_s2I, E_s2R, E_s2N, E_a1, E_a0, E_aI, E_aR, E_aN, E_aL, Option.isSome_some, eq_self, true_and, and_true, true_or, or_true, ne_eq, not_false_eq_true, not_true_eq_false, reduceIte, reduceCtorEq, Nat.reduceAdd, Nat.reduceBEq, Nat.reduceEqDiff, Option.toList_some, Option.toList_none, List.cons_append, List.nil_append]
    refine ⟨fun h => bad _ (by simp) (Or.inl h), fun h => ?_⟩
    obtain ⟨n, h31, rfl⟩ := (i_split v).resolve_left h
    refine sp_ldcw hz (j := 1243) (v := 1000000) (by decide +kernel) d_Mod_tick_6 ?_
    refine sp_run hz _ _ e_Mod_tick_9 _ _ _ ?_
    simp only [k_Mod_tick_9, E_nil, E_iconst, E_bipush, E_sipush, E_ldc, E_ldc2, E_lconst, E_null, E_iload_n, E_lload_n, E_aload_n, E_istore_n, E_lstore_n, E_astore_n, E_astoreN_n, E_iload, E_lload, E_aload, E_istore, E_lstore, E_astore, E_astoreN, E_ldi, E_ldl, E_lda, E_ldN, E_iinc, E_iadd, E_isub, E_imul, E_iand, E_ior, E_ixor, E_ishl, E_ishr, E_idiv, E_irem, E_ineg, E_ladd, E_lsub, E_land, E_lor, E_lcmp, E_lshl, E_lshr, E_lushr, E_i2l, E_l2i, E_i2c, E_dupI, E_popI, E_dup_x1II, E_dup2II, E_dup_x1IR, E_dup2IR, E_dup_x1IN, E_dup2IN, E_dupR, E_popR, E_dup_x1RI, E_dup2RI, E_dup_x1RR, E_dup2RR, E_dup_x1RN, E_dup2RN, E_dupN, E_popN, E_dup_x1NI, E_dup2NI, E_dup_x1NR, E_dup2NR, E_dup_x1NN, E_dup2NN, E_goto, E_if_eq, E_if_ne, E_if_lt, E_if_ge, E_if_gt, E_if_le, E_ic_eq, E_ic_ne, E_ic_lt, E_ic_ge, E_ic_gt, E_ic_le, E_ifnull, E_ifnullN, E_ifnonnull, E_ifnonnullN, E_get, E_gf, E_xv, E_n0, E_ns, E_putI, E_putR, E_putN, E_pf, E_st0, E_sts, E_iaload, E_caload, E_laload, E_aaload, E_alen, E_iast, E_cast, E_last, E_xI, E_xJ, E_xQ, E_xN, E_lk, E_lkn, E_s1, E_s1h, E_s1I, E_s1R, E_s1N, E_s1L, E_s2, E_s2h, E_s2L, E_s2I, E_s2R, E_s2N, E_a1, E_a0, E_aI, E_aR, E_aN, E_aL, Option.isSome_some, eq_self, true_and, and_true, true_or, or_true, ne_eq, not_false_eq_true, not_true_eq_false, reduceIte, reduceCtorEq, Nat.reduceAdd, Nat.reduceBEq, Nat.reduceEqDiff, Option.toList_some, Option.toList_none, List.cons_append, List.nil_append]
    refine ⟨fun h2 => ?_, fun h2 => bad _ (by simp) (Or.inr ⟨n, h31, rfl, Nat.not_le.mp fun q => h2 ((nI_leI (b := 1000000) h31 (by decide)).mpr q)⟩)⟩
    have hn : n ≤ 1000000 := (nI_leI (b := 1000000) h31 (by decide)).mp h2
    obtain ⟨ht, hp⟩ := p0 n hn rfl
    generalize hT0 : V 14 + n = t at ht hp
    have b3 : R.length ≤ 48 := hS.bl.2.2.2.1
    -- the items from the back
    have loop : ∀ i R1 (V1 : Nat → Nat) M1 (L0 : sp_L), (∀ q ∈ [(0, .ref (B 0)), (2, .int (nI i + (-1)))], q ∈ L0) → i ≤ R1.length → (R1.filter (fun x => exq t x.1)).Perm (R.filter (fun x => exq t x.1)) → (∀ (j : Nat) (x : It × Nat), i ≤ j → R1[j]? = some x → exq t x.1 = true) → rS G M1 B s a R1 pg ws fr V1 → V1 0 = 0 → V1 14 = t → V1 18 + R1.length = V 18 + R.length → vsm V V1 [0, 5, 14, 18] → rfr B M M1 → sp_W z G M (sp_Q z G M Post 0 0) 3 0 0 45 L0 [] M1 := by
      intro i
      induction i with
      | zero =>
        intro R1 V1 M1 L0 hL0 hi hperm hall hS1 v0 v14 v18 hvs hf
        refine sp_Lm _ hL0 ?_
        refine sp_run hz _ _ e_Mod_tick_45 _ _ _ ?_
        simp only [k_Mod_tick_45, E_nil, E_iconst, E_bipush, E_sipush, E_ldc, E_ldc2, E_lconst, E_null, E_iload_n, E_lload_n, E_aload_n, E_istore_n, E_lstore_n, E_astore_n, E_astoreN_n, E_iload, E_lload, E_aload, E_istore, E_lstore, E_astore, E_astoreN, E_ldi, E_ldl, E_lda, E_ldN, E_iinc, E_iadd, E_isub, E_imul, E_iand, E_ior, E_ixor, E_ishl, E_ishr, E_idiv, E_irem, E_ineg, E_ladd, E_lsub, E_land, E_lor, E_lcmp, E_lshl, E_lshr, E_lushr, E_i2l, E_l2i, E_i2c, E_dupI, E_popI, E_dup_x1II, E_dup2II, E_dup_x1IR, E_dup2IR, E_dup_x1IN, E_dup2IN, E_dupR, E_popR, E_dup_x1RI, E_dup2RI, E_dup_x1RR, E_dup2RR, E_dup_x1RN, E_dup2RN, E_dupN, E_popN, E_dup_x1NI, E_dup2NI, E_dup_x1NR, E_dup2NR, E_dup_x1NN, E_dup2NN, E_goto, E_if_eq, E_if_ne, E_if_lt, E_if_ge, E_if_gt, E_if_le, E_ic_eq, E_ic_ne, E_ic_lt, E_ic_ge, E_ic_gt, E_ic_le, E_ifnull, E_ifnullN, E_ifnonnull, E_ifnonnullN, E_get, E_gf, E_xv, E_n0, E_ns, E_putI, E_putR, E_putN, E_pf, E_st0, E_sts, E_iaload, E_caload, E_laload, E_aaload, E_alen, E_iast, E_cast, E_last, E_xI, E_xJ, E_xQ, E_xN, E_lk, E_lkn, E_s1, E_s1h, E_s1I, E_s1R, E_s1N, E_s1L, E_s2, E_s2h, E_s2L, E_s2I, E_s2R, E_s2N, E_a1, E_a0, E_aI, E_aR, E_aN, E_aL, Option.isSome_some, eq_self, true_and, and_true, true_or, or_true, ne_eq, not_false_eq_true, not_true_eq_false, reduceIte, reduceCtorEq, Nat.reduceAdd, Nat.reduceBEq, Nat.reduceEqDiff, Option.toList_some, Option.toList_none, List.cons_append, List.nil_append]
        refine ⟨fun _ => ?_, fun h => absurd (by decide) h⟩
        have he : R1.filter (fun x => exq t x.1) = R1 := List.filter_eq_self.mpr fun x hx => by
          obtain ⟨j, hj⟩ := List.mem_iff_getElem?.mp hx
          exact hall j x (Nat.zero_le _) hj
        rw [he] at hperm
        have hsr1 := hsr.fil hperm
        have v16 : V1 16 = V 16 := hvs 16 (by decide)
        refine sp_vret hz d_Mod_tick_87 (Nat.le_refl _) (Nat.le_refl _) (hp M1 V1 ⟨R1, hS1, by rw [v16]; exact hsr1, kd_sub hkd List.filter_sublist⟩ v0 v14 ?_ hvs hf)
        have l1 := hsr1.len
        have l2 := hsr.len
        have l3 : (L.filter (exq t)).length ≤ L.length := List.length_filter_le _ _
        omega
      | succ i ih =>
        intro R1 V1 M1 L0 hL0 hi hperm hall hS1 v0 v14 v18 hvs hf
        rw [nI_m1] at hL0
        refine sp_Lm _ hL0 ?_
        have hlt : i < R1.length := by omega
        have b31 : R1.length ≤ 48 := hS1.bl.2.2.2.1
        have hx : R1[i]? = some R1[i] := List.getElem?_eq_getElem hlt
        have hw := (hS1.cl4.1 _ (List.getElem_mem hlt)).1
        have hS1' := hS1
        obtain ⟨F, K, h0, -, ⟨-, -, -, -, ti, -⟩, -⟩ := hS1'
        have h11 : M1 (B 11) = some (.inl (G.2.1 1, 48, .inl (F 11))) := h0.a 11 rfl
        obtain ⟨uk, uf, ul, ut, ug, uu, ud⟩ := ti i _ hx
        have hin : vp_in (nI i) 48 := nI_in (by omega) (by decide)
        have hgz := gz_ex hw.2.2.2.2.2.2.2.2 hw.2.2.2.2.2.2.2.1 ht
        have stay : exq t R1[i].1 = true → ∀ (L0 : sp_L), (∀ q ∈ [(0, .ref (B 0)), (2, .int (nI i))], q ∈ L0) → sp_W z G M (sp_Q z G M Post 0 0) 3 0 0 77 L0 [.int (nI i), .ref (B 0)] M1 := by
          intro hq L0 hL0
          refine sp_Lm _ hL0 ?_
          refine sp_run hz _ _ e_Mod_tick_77 _ _ _ ?_
          simp only [k_Mod_tick_77, E_nil, E_iconst, E_bipush, E_sipush, E_ldc, E_ldc2, E_lconst, E_null, E_iload_n, E_lload_n, E_aload_n, E_istore_n, E_lstore_n, E_astore_n, E_astoreN_n, E_iload, E_lload, E_aload, E_istore, E_lstore, E_astore, E_astoreN, E_ldi, E_ldl, E_lda, E_ldN, E_iinc, E_iadd, E_isub, E_imul, E_iand, E_ior, E_ixor, E_ishl, E_ishr, E_idiv, E_irem, E_ineg, E_ladd, E_lsub, E_land, E_lor, E_lcmp, E_lshl, E_lshr, E_lushr, E_i2l, E_l2i, E_i2c, E_dupI, E_popI, E_dup_x1II, E_dup2II, E_dup_x1IR, E_dup2IR, E_dup_x1IN, E_dup2IN, E_dupR, E_popR, E_dup_x1RI, E_dup2RI, E_dup_x1RR, E_dup2RR, E_dup_x1RN, E_dup2RN, E_dupN, E_popN, E_dup_x1NI, E_dup2NI, E_dup_x1NR, E_dup2NR, E_dup_x1NN, E_dup2NN, E_goto, E_if_eq, E_if_ne, E_if_lt, E_if_ge, E_if_gt, E_if_le, E_ic_eq, E_ic_ne, E_ic_lt, E_ic_ge, E_ic_gt, E_ic_le, E_ifnull, E_ifnullN, E_ifnonnull, E_ifnonnullN, E_get, E_gf, E_xv, E_n0, E_ns, E_putI, E_putR, E_putN, E_pf, E_st0, E_sts, E_iaload, E_caload, E_laload, E_aaload, E_alen, E_iast, E_cast, E_last, E_xI, E_xJ, E_xQ, E_xN, E_lk, E_lkn, E_s1, E_s1h, E_s1I, E_s1R, E_s1N, E_s1L, E_s2, E_s2h, E_s2L, E_s2I, E_s2R, E_s2N, E_a1, E_a0, E_aI, E_aR, E_aN, E_aL, Option.isSome_some, eq_self, true_and, and_true, true_or, or_true, ne_eq, not_false_eq_true, not_true_eq_false, reduceIte, reduceCtorEq, Nat.reduceAdd, Nat.reduceBEq, Nat.reduceEqDiff, Option.toList_some, Option.toList_none, List.cons_append, List.nil_append]
          refine sp_callV hz (c_Mod_endIf l G) (ci := 8) (As := [.int (nI i), .int (b2i false)]) (rest := []) rfl w_Mod_281 (by decide) hS1.o rfl (Nat.le_of_ble_eq_true rfl) d_Mod_tick_78 ⟨B, s, a, R1, pg, ws, fr, V1, i, false, rfl, hS1, hlt, fun _ => ?_, fun h => (by cases h)⟩ rfl
          refine sp_run hz _ _ e_Mod_tick_81 _ _ _ ?_
          simp only [k_Mod_tick_81, E_nil, E_iconst, E_bipush, E_sipush, E_ldc, E_ldc2, E_lconst, E_null, E_iload_n, E_lload_n, E_aload_n, E_istore_n, E_lstore_n, E_astore_n, E_astoreN_n, E_iload, E_lload, E_aload, E_istore, E_lstore, E_astore, E_astoreN, E_ldi, E_ldl, E_lda, E_ldN, E_iinc, E_iadd, E_isub, E_imul, E_iand, E_ior, E_ixor, E_ishl, E_ishr, E_idiv, E_irem, E_ineg, E_ladd, E_lsub, E_land, E_lor, E_lcmp, E_lshl, E_lshr, E_lushr, E_i2l, E_l2i, E_i2c, E_dupI, E_popI, E_dup_x1II, E_dup2II, E_dup_x1IR, E_dup2IR, E_dup_x1IN, E_dup2IN, E_dupR, E_popR, E_dup_x1RI, E_dup2RI, E_dup_x1RR, E_dup2RR, E_dup_x1RN, E_dup2RN, E_dupN, E_popN, E_dup_x1NI, E_dup2NI, E_dup_x1NR, E_dup2NR, E_dup_x1NN, E_dup2NN, E_goto, E_if_eq, E_if_ne, E_if_lt, E_if_ge, E_if_gt, E_if_le, E_ic_eq, E_ic_ne, E_ic_lt, E_ic_ge, E_ic_gt, E_ic_le, E_ifnull, E_ifnullN, E_ifnonnull, E_ifnonnullN, E_get, E_gf, E_xv, E_n0, E_ns, E_putI, E_putR, E_putN, E_pf, E_st0, E_sts, E_iaload, E_caload, E_laload, E_aaload, E_alen, E_iast, E_cast, E_last, E_xI, E_xJ, E_xQ, E_xN, E_lk, E_lkn, E_s1, E_s1h, E_s1I, E_s1R, E_s1N, E_s1L, E_s2, E_s2h, E_s2L, E_s2I, E_s2R, E_s2N, E_a1, E_a0, E_aI, E_aR, E_aN, E_aL, Option.isSome_some, eq_self, true_and, and_true, true_or, or_true, ne_eq, not_false_eq_true, not_true_eq_false, reduceIte, reduceCtorEq, Nat.reduceAdd, Nat.reduceBEq, Nat.reduceEqDiff, Option.toList_some, Option.toList_none, List.cons_append, List.nil_append]
          refine ih R1 V1 M1 _ (by simp) (by omega) hperm (fun j x hj hxj => ?_) hS1 v0 v14 v18 hvs hf
          by_cases e : j = i
          · rw [e, hx] at hxj
            cases hxj
            exact hq
          · exact hall j x (by omega) hxj
        refine sp_run hz _ _ e_Mod_tick_45 _ _ _ ?_
        simp only [k_Mod_tick_45, E_nil, E_iconst, E_bipush, E_sipush, E_ldc, E_ldc2, E_lconst, E_null, E_iload_n, E_lload_n, E_aload_n, E_istore_n, E_lstore_n, E_astore_n, E_astoreN_n, E_iload, E_lload, E_aload, E_istore, E_lstore, E_astore, E_astoreN, E_ldi, E_ldl, E_lda, E_ldN, E_iinc, E_iadd, E_isub, E_imul, E_iand, E_ior, E_ixor, E_ishl, E_ishr, E_idiv, E_irem, E_ineg, E_ladd, E_lsub, E_land, E_lor, E_lcmp, E_lshl, E_lshr, E_lushr, E_i2l, E_l2i, E_i2c, E_dupI, E_popI, E_dup_x1II, E_dup2II, E_dup_x1IR, E_dup2IR, E_dup_x1IN, E_dup2IN, E_dupR, E_popR, E_dup_x1RI, E_dup2RI, E_dup_x1RR, E_dup2RR, E_dup_x1RN, E_dup2RN, E_dupN, E_popN, E_dup_x1NI, E_dup2NI, E_dup_x1NR, E_dup2NR, E_dup_x1NN, E_dup2NN, E_goto, E_if_eq, E_if_ne, E_if_lt, E_if_ge, E_if_gt, E_if_le, E_ic_eq, E_ic_ne, E_ic_lt, E_ic_ge, E_ic_gt, E_ic_le, E_ifnull, E_ifnullN, E_ifnonnull, E_ifnonnullN, E_get, E_gf, E_xv, E_n0, E_ns, E_putI, E_putR, E_putN, E_pf, E_st0, E_sts, E_iaload, E_caload, E_laload, E_aaload, E_alen, E_iast, E_cast, E_last, E_xI, E_xJ, E_xQ, E_xN, E_lk, E_lkn, E_s1, E_s1h, E_s1I, E_s1R, E_s1N, E_s1L, E_s2, E_s2h, E_s2L, E_s2I, E_s2R, E_s2N, E_a1, E_a0, E_aI, E_aR, E_aN, E_aL, Option.isSome_some, eq_self, true_and, and_true, true_or, or_true, ne_eq, not_false_eq_true, not_true_eq_false, reduceIte, reduceCtorEq, Nat.reduceAdd, Nat.reduceBEq, Nat.reduceEqDiff, Option.toList_some, Option.toList_none, List.cons_append, List.nil_append, h0.o, h11, rn_11, rn_14, hin, nI_clamp (show i < 2 ^ 31 by omega), ug, v14]
        refine ⟨fun h => absurd h (nI_pos (by omega)), fun _ => ⟨fun h1 => stay ?_ _ (by simp), fun h1 => ⟨fun h2 => stay ?_ _ (by simp), fun h2 => ?_⟩⟩⟩
        · unfold exq
          exact decide_eq_true (Classical.byContradiction fun q => (hgz.mpr q).1 h1)
        · unfold exq
          exact decide_eq_true (Classical.byContradiction fun q => (hgz.mpr q).2 h2)
        · have hq : exq t R1[i].1 = false := by
            unfold exq
            exact decide_eq_false (hgz.mp ⟨h1, h2⟩)
          refine sp_callV hz (c_Mod_endIf l G) (ci := 8) (As := [.int (nI i), .int (b2i true)]) (rest := []) rfl w_Mod_281 (by decide) hS1.o rfl (Nat.le_of_ble_eq_true rfl) d_Mod_tick_78 ⟨B, s, a, R1, pg, ws, fr, V1, i, true, rfl, hS1, hlt, fun h => (by cases h), fun _ M2 hS2 hf2 => ?_⟩ rfl
          refine sp_run hz _ _ e_Mod_tick_81 _ _ _ ?_
          simp only [k_Mod_tick_81, E_nil, E_iconst, E_bipush, E_sipush, E_ldc, E_ldc2, E_lconst, E_null, E_iload_n, E_lload_n, E_aload_n, E_istore_n, E_lstore_n, E_astore_n, E_astoreN_n, E_iload, E_lload, E_aload, E_istore, E_lstore, E_astore, E_astoreN, E_ldi, E_ldl, E_lda, E_ldN, E_iinc, E_iadd, E_isub, E_imul, E_iand, E_ior, E_ixor, E_ishl, E_ishr, E_idiv, E_irem, E_ineg, E_ladd, E_lsub, E_land, E_lor, E_lcmp, E_lshl, E_lshr, E_lushr, E_i2l, E_l2i, E_i2c, E_dupI, E_popI, E_dup_x1II, E_dup2II, E_dup_x1IR, E_dup2IR, E_dup_x1IN, E_dup2IN, E_dupR, E_popR, E_dup_x1RI, E_dup2RI, E_dup_x1RR, E_dup2RR, E_dup_x1RN, E_dup2RN, E_dupN, E_popN, E_dup_x1NI, E_dup2NI, E_dup_x1NR, E_dup2NR, E_dup_x1NN, E_dup2NN, E_goto, E_if_eq, E_if_ne, E_if_lt, E_if_ge, E_if_gt, E_if_le, E_ic_eq, E_ic_ne, E_ic_lt, E_ic_ge, E_ic_gt, E_ic_le, E_ifnull, E_ifnullN, E_ifnonnull, E_ifnonnullN, E_get, E_gf, E_xv, E_n0, E_ns, E_putI, E_putR, E_putN, E_pf, E_st0, E_sts, E_iaload, E_caload, E_laload, E_aaload, E_alen, E_iast, E_cast, E_last, E_xI, E_xJ, E_xQ, E_xN, E_lk, E_lkn, E_s1, E_s1h, E_s1I, E_s1R, E_s1N, E_s1L, E_s2, E_s2h, E_s2L, E_s2I, E_s2R, E_s2N, E_a1, E_a0, E_aI, E_aR, E_aN, E_aL, Option.isSome_some, eq_self, true_and, and_true, true_or, or_true, ne_eq, not_false_eq_true, not_true_eq_false, reduceIte, reduceCtorEq, Nat.reduceAdd, Nat.reduceBEq, Nat.reduceEqDiff, Option.toList_some, Option.toList_none, List.cons_append, List.nil_append]
          refine ih (rmx i R1) _ M2 _ (by simp) (by rw [rmx_len]; omega) ?_ (fun j x hj hxj => ?_) hS2 (by exact v0) (by exact v14) ?_ (fun q hq => ?_) (hf.trans hf2)
          · have p1 := (rmx_perm hlt).filter (fun x => exq t x.1)
            have p2 := (at_perm hx).filter (fun x => exq t x.1)
            rw [List.filter_cons_of_neg (by rw [hq]; decide)] at p2
            exact (p1.trans p2).trans hperm
          · obtain ⟨n', hn'⟩ : ∃ n', R1.length = n' + 1 := ⟨R1.length - 1, by omega⟩
            obtain ⟨hjn, hq2⟩ := rmx_at hn' (show i ≤ n' by omega) hxj
            rcases hq2 with ⟨rfl, hq2⟩ | ⟨hne, hq2⟩
            · exact hall n' x (by omega) hq2
            · exact hall j x (by omega) hq2
          · show V1 18 + 1 + (rmx i R1).length = _
            rw [rmx_len]
            omega
          · rw [up_n _ _ (fun e => hq (by rw [e]; simp)), up_n _ _ (fun e => hq (by rw [e]; simp))]
            exact hvs q hq
    refine sp_run hz _ _ e_Mod_tick_16 _ _ _ ?_
    simp only [k_Mod_tick_16, E_nil, E_iconst, E_bipush, E_sipush, E_ldc, E_ldc2, E_lconst, E_null, E_iload_n, E_lload_n, E_aload_n, E_istore_n, E_lstore_n, E_astore_n, E_astoreN_n, E_iload, E_lload, E_aload, E_istore, E_lstore, E_astore, E_astoreN, E_ldi, E_ldl, E_lda, E_ldN, E_iinc, E_iadd, E_isub, E_imul, E_iand, E_ior, E_ixor, E_ishl, E_ishr, E_idiv, E_irem, E_ineg, E_ladd, E_lsub, E_land, E_lor, E_lcmp, E_lshl, E_lshr, E_lushr, E_i2l, E_l2i, E_i2c, E_dupI, E_popI, E_dup_x1II, E_dup2II, E_dup_x1IR, E_dup2IR, E_dup_x1IN, E_dup2IN, E_dupR, E_popR, E_dup_x1RI, E_dup2RI, E_dup_x1RR, E_dup2RR, E_dup_x1RN, E_dup2RN, E_dupN, E_popN, E_dup_x1NI, E_dup2NI, E_dup_x1NR, E_dup2NR, E_dup_x1NN, E_dup2NN, E_goto, E_if_eq, E_if_ne, E_if_lt, E_if_ge, E_if_gt, E_if_le, E_ic_eq, E_ic_ne, E_ic_lt, E_ic_ge, E_ic_gt, E_ic_le, E_ifnull, E_ifnullN, E_ifnonnull, E_ifnonnullN, E_get, E_gf, E_xv, E_n0, E_ns, E_putI, E_putR, E_putN, E_pf, E_st0, E_sts, E_iaload, E_caload, E_laload, E_aaload, E_alen, E_iast, E_cast, E_last, E_xI, E_xJ, E_xQ, E_xN, E_lk, E_lkn, E_s1, E_s1h, E_s1I, E_s1R, E_s1N, E_s1L, E_s2, E_s2h, E_s2L, E_s2I, E_s2R, E_s2N, E_a1, E_a0, E_aI, E_aR, E_aN, E_aL, Option.isSome_some, eq_self, true_and, and_true, true_or, or_true, ne_eq, not_false_eq_true, not_true_eq_false, reduceIte, reduceCtorEq, Nat.reduceAdd, Nat.reduceBEq, Nat.reduceEqDiff, Option.toList_some, Option.toList_none, List.cons_append, List.nil_append]
    refine sp_run hz _ _ e_Mod_tick_17 _ _ _ ?_
    simp only [k_Mod_tick_17, E_nil, E_iconst, E_bipush, E_sipush, E_ldc, E_ldc2, E_lconst, E_null, E_iload_n, E_lload_n, E_aload_n, E_istore_n, E_lstore_n, E_astore_n, E_astoreN_n, E_iload, E_lload, E_aload, E_istore, E_lstore, E_astore, E_astoreN, E_ldi, E_ldl, E_lda, E_ldN, E_iinc, E_iadd, E_isub, E_imul, E_iand, E_ior, E_ixor, E_ishl, E_ishr, E_idiv, E_irem, E_ineg, E_ladd, E_lsub, E_land, E_lor, E_lcmp, E_lshl, E_lshr, E_lushr, E_i2l, E_l2i, E_i2c, E_dupI, E_popI, E_dup_x1II, E_dup2II, E_dup_x1IR, E_dup2IR, E_dup_x1IN, E_dup2IN, E_dupR, E_popR, E_dup_x1RI, E_dup2RI, E_dup_x1RR, E_dup2RR, E_dup_x1RN, E_dup2RN, E_dupN, E_popN, E_dup_x1NI, E_dup2NI, E_dup_x1NR, E_dup2NR, E_dup_x1NN, E_dup2NN, E_goto, E_if_eq, E_if_ne, E_if_lt, E_if_ge, E_if_gt, E_if_le, E_ic_eq, E_ic_ne, E_ic_lt, E_ic_ge, E_ic_gt, E_ic_le, E_ifnull, E_ifnullN, E_ifnonnull, E_ifnonnullN, E_get, E_gf, E_xv, E_n0, E_ns, E_putI, E_putR, E_putN, E_pf, E_st0, E_sts, E_iaload, E_caload, E_laload, E_aaload, E_alen, E_iast, E_cast, E_last, E_xI, E_xJ, E_xQ, E_xN, E_lk, E_lkn, E_s1, E_s1h, E_s1I, E_s1R, E_s1N, E_s1L, E_s2, E_s2h, E_s2L, E_s2I, E_s2R, E_s2N, E_a1, E_a0, E_aI, E_aR, E_aN, E_aL, Option.isSome_some, eq_self, true_and, and_true, true_or, or_true, ne_eq, not_false_eq_true, not_true_eq_false, reduceIte, reduceCtorEq, Nat.reduceAdd, Nat.reduceBEq, Nat.reduceEqDiff, Option.toList_some, Option.toList_none, List.cons_append, List.nil_append, hS.o, sp_u_s, rn_0, show ((rL B V).set 0 (.int 0)) = rL B (up V 0 0) from rfl, up_s]
    refine ⟨fun _ => ?_, fun h => absurd (by decide) h⟩
    have hS0 := hS.v (up V 0 0) rfl rfl rfl rfl rfl
    have v14 : up V 0 0 14 = V 14 := rfl
    have e1 : nI (V 14) + nI n = nI t := by rw [← hT0]; exact (Int32.ofNat_add _ _).symm
    have v5 : up (up V 0 0) 14 t 5 = R.length := hS.bl.1.2.2.1
    have em : nI R.length - 1 = nI R.length + (-1) := by
      rw [Int32.sub_eq_add_neg]
    refine sp_run hz _ _ e_Mod_tick_28 _ _ _ ?_
    simp only [k_Mod_tick_28, E_nil, E_iconst, E_bipush, E_sipush, E_ldc, E_ldc2, E_lconst, E_null, E_iload_n, E_lload_n, E_aload_n, E_istore_n, E_lstore_n, E_astore_n, E_astoreN_n, E_iload, E_lload, E_aload, E_istore, E_lstore, E_astore, E_astoreN, E_ldi, E_ldl, E_lda, E_ldN, E_iinc, E_iadd, E_isub, E_imul, E_iand, E_ior, E_ixor, E_ishl, E_ishr, E_idiv, E_irem, E_ineg, E_ladd, E_lsub, E_land, E_lor, E_lcmp, E_lshl, E_lshr, E_lushr, E_i2l, E_l2i, E_i2c, E_dupI, E_popI, E_dup_x1II, E_dup2II, E_dup_x1IR, E_dup2IR, E_dup_x1IN, E_dup2IN, E_dupR, E_popR, E_dup_x1RI, E_dup2RI, E_dup_x1RR, E_dup2RR, E_dup_x1RN, E_dup2RN, E_dupN, E_popN, E_dup_x1NI, E_dup2NI, E_dup_x1NR, E_dup2NR, E_dup_x1NN, E_dup2NN, E_goto, E_if_eq, E_if_ne, E_if_lt, E_if_ge, E_if_gt, E_if_le, E_ic_eq, E_ic_ne, E_ic_lt, E_ic_ge, E_ic_gt, E_ic_le, E_ifnull, E_ifnullN, E_ifnonnull, E_ifnonnullN, E_get, E_gf, E_xv, E_n0, E_ns, E_putI, E_putR, E_putN, E_pf, E_st0, E_sts, E_iaload, E_caload, E_laload, E_aaload, E_alen, E_iast, E_cast, E_last, E_xI, E_xJ, E_xQ, E_xN, E_lk, E_lkn, E_s1, E_s1h, E_s1I, E_s1R, E_s1N, E_s1L, E_s2, E_s2h, E_s2L, E_s2I, E_s2R, E_s2N, E_a1, E_a0, E_aI, E_aR, E_aN, E_aL, Option.isSome_some, eq_self, true_and, and_true, true_or, or_true, ne_eq, not_false_eq_true, not_true_eq_false, reduceIte, reduceCtorEq, Nat.reduceAdd, Nat.reduceBEq, Nat.reduceEqDiff, Option.toList_some, Option.toList_none, List.cons_append, List.nil_append, hS0.o, sp_u_s, rn_14, v14, e1, rs_14, rn_5, v5, em]
    have hS2 := hS0.v (up (up V 0 0) 14 t) rfl rfl rfl rfl rfl
    refine loop R.length R _ _ _ (by simp) (Nat.le_refl _) (List.Perm.refl _) (fun j x hj hx => ?_) hS2 rfl (up_s _ _ _) rfl (fun q hq => ?_) (((rfr.refl B M).u (j := 0) rfl).u (j := 0) rfl)
    · have := (List.getElem?_eq_some_iff.mp hx).1
      omega
    · rw [up_n _ _ (fun e => hq (by rw [e]; simp)), up_n _ _ (fun e => hq (by rw [e]; simp))]
