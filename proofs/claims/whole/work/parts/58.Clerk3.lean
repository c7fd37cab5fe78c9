def k_Math_max_0 : List sp_I := [(.iload_n 0, 1, 0, 0, 0, 0), (.iload_n 1, 1, 1, 0, 0, 0), (.if_icmp .lt 7, 3, 9, 0, 0, 0), (.iload_n 0, 1, 0, 0, 0, 0), (.goto 4, 3, 10, 0, 0, 0)]
theorem e_Math_max_0 : sp_ok R_Math b_Math_max 2 k_Math_max_0 0 = true := by decide +kernel
def k_Math_max_9 : List sp_I := [(.iload_n 1, 1, 1, 0, 0, 0)]
theorem e_Math_max_9 : sp_ok R_Math b_Math_max 2 k_Math_max_9 9 = true := by decide +kernel
theorem d_Math_max_10 : decode b_Math_max 10 = .ok (.ireturn, 1) := by decide +kernel
def T_Math_max : sp_T := fun av M Post => ∃ a b, av = [.int a, .int b] ∧ (a < b → Post (some (.int b)) M) ∧ (¬ a < b → Post (some (.int a)) M)
set_option maxHeartbeats 4000000 in
set_option maxRecDepth 100000 in
theorem c_Math_max (l : Launch) (G : sp_G) : sp_Met l G y_Math_max b_Math_max 2 (some .int) {} T_Math_max := by
  refine sp_entryF (by decide +kernel) (fun av M Post h => ?_) (fun z M av Post hz _ hT => ?_)
  · obtain ⟨a, b, rfl, -⟩ := h
    exact Nat.le_of_ble_eq_true rfl
  · obtain ⟨a, b, rfl, p1, p2⟩ := hT
    refine sp_run hz _ _ e_Math_max_0 _ _ _ ?_
    simp only [k_Math_max_0, E_nil, E_iconst, E_bipush, E_sipush, E_ldc, E_ldc2, E_lconst, E_null, E_iload_n, E_lload_n, E_aload_n, E_istore_n, E_lstore_n, E_astore_n, E_astoreN_n, E_iload, E_lload, E_aload, E_istore, E_lstore, E_astore, E_astoreN, E_ldi, E_ldl, E_lda, E_ldN, E_iinc, E_iadd, E_isub, E_imul, E_iand, E_ior, E_ixor, E_ishl, E_ishr, E_idiv, E_irem, E_ineg, E_ladd, E_lsub, E_land, E_lor, E_lcmp, E_lshl, E_lshr, E_lushr, E_i2l, E_l2i, E_i2c, E_dupI, E_popI, E_dup_x1II, E_dup2II, E_dup_x1IR, E_dup2IR, E_dup_x1IN, E_dup2IN, E_dupR, E_popR, E_dup_x1RI, E_dup2RI, E_dup_x1RR, E_dup2RR, E_dup_x1RN, E_dup2RN, E_dupN, E_popN, E_dup_x1NI, E_dup2NI, E_dup_x1NR, E_dup2NR, E_dup_x1NN, E_dup2NN, E_goto, E_if_eq, E_if_ne, E_if_lt, E_if_ge, E_if_gt, E_if_le, E_ic_eq, E_ic_ne, E_ic_lt, E_ic_ge, E_ic_gt, E_ic_le, E_ifnull, E_ifnullN, E_ifnonnull, E_ifnonnullN, E_get, E_gf, E_xv, E_n0, E_ns, E_putI, E_putR, E_putN, E_pf, E_st0, E_sts, E_iaload, E_caload, E_laload, E_aaload, E_alen, E_iast, E_cast, E_last, E_xI, E_xJ, E_xQ, E_xN, E_lk, E_lkn, E_s1, E_s1h, E_s1I, E_s1R, E_s1N, E_s1L, E_s2, E_s2h, E_s2L, E_s2I, E_s2R, E_s2N, E_a1, E_a0, E_aI, E_aR, E_aN, E_aL, Option.isSome_some, eq_self, true_and, and_true, true_or, or_true, ne_eq, not_false_eq_true, not_true_eq_false, reduceIte, reduceCtorEq, Nat.reduceAdd, Nat.reduceBEq, Nat.reduceEqDiff, Option.toList_some, Option.toList_none, List.cons_append, List.nil_append]
    refine ⟨fun h => ?_, fun h => ?_⟩
    · refine sp_run hz _ _ e_Math_max_9 _ _ _ ?_
      simp only [k_Math_max_9, E_nil, E_iconst, E_bipush, E_sipush, E_ldc, E_ldc2, E_lconst, E_null, E_iload_n, E_lload_n, E_aload_n, E_istore_n, E_lstore_n, E_astore_n, E_astoreN_n, E_iload, E_lload, E_aload, E_istore, E_lstore, E_astore, E_astoreN, E_ldi, E_ldl, E_lda, E_ldN, E_iinc, E_iadd, E_isub, E_imul, E_iand, E_ior, E_ixor, E_ishl, E_ishr, E_idiv, E_irem, E_ineg, E_ladd, E_lsub, E_land, E_lor, E_lcmp, E_lshl, E_lshr, E_lushr, E_i2l, E_l2i, E_i2c, E_dupI, E_popI, E_dup_x1II, E_dup2II, E_dup_x1IR, E_dup2IR, E_dup_x1IN, E_dup2IN, E_dupR, E_popR, E_dup_x1RI, E_dup2RI, E_dup_x1RR, E_dup2RR, E_dup_x1RN, E_dup2RN, E_dupN, E_popN, E_dup_x1NI, E_dup2NI, E_dup_x1NR, E_dup2NR, E_dup_x1NN, E_dup2NN, E_goto, E_if_eq, E_if_ne, E_if_lt, E_if_ge, E_if_gt, E_if_le, E_ic_eq, E_ic_ne, E_ic_lt, E_ic_ge, E_ic_gt, E_ic_le, E_ifnull, E_ifnullN, E_ifnonnull, E_ifnonnullN, E_get, E_gf, E_xv, E_n0, E_ns, E_putI, E_putR, E_putN, E_pf, E_st0, E_sts, E_iaload, E_caload, E_laload, E_aaload, E_alen, E_iast, E_cast, E_last, E_xI, E_xJ, E_xQ, E_xN, E_lk, E_lkn, E_s1, E_s1h, E_s1I, E_s1R, E_s1N, E_s1L, E_s2, E_s2h, E_s2L, E_s2I, E_s2R, E_s2N, E_a1, E_a0, E_aI, E_aR, E_aN, E_aL, Option.isSome_some, eq_self, true_and, and_true, true_or, or_true, ne_eq, not_false_eq_true, not_true_eq_false, reduceIte, reduceCtorEq, Nat.reduceAdd, Nat.reduceBEq, Nat.reduceEqDiff, Option.toList_some, Option.toList_none, List.cons_append, List.nil_append]
      exact sp_iret hz d_Math_max_10 (Nat.le_refl _) (Nat.le_refl _) (p1 h)
    · exact sp_iret hz d_Math_max_10 (Nat.le_refl _) (Nat.le_refl _) (p2 h)
theorem d_Clerk_obey_13 : decode b_Clerk_obey 13 = .ok (.iaload, 1) := by decide +kernel
theorem d_Clerk_obstacle_13 : decode b_Clerk_obstacle 13 = .ok (.iaload, 1) := by decide +kernel
theorem d_Clerk_prepareChange_25 : decode b_Clerk_prepareChange 25 = .ok (.iaload, 1) := by decide +kernel
/-- when an item with the time to live of word j is gone -/
def lfG (s : List Nat) (ws : List (Nat × Nat)) (j ti : Nat) : Nat := if hmin s ws j = true then ti else if pu_val (wt s ws j) = 0 then 2147483647 else ti + pu_val (wt s ws j)
theorem okK_l {s : List Nat} {ws : List (Nat × Nat)} {j : Nat} (h : okK s ws j 108 = true) (hm : hmin s ws j = false) : pu_isnum s (wS ws j) (wL ws j) = true := by
  unfold okK at h
  rw [if_neg (by decide), hm, Bool.and_false] at h
  exact h
theorem num_lt {s : List Nat} {ws : List (Nat × Nat)} {j : Nat} (h : pu_isnum s (wS ws j) (wL ws j) = true) : pu_val (wt s ws j) < 1000000000 := by
  obtain ⟨n1, n2, n3⟩ := isnum_e h
  exact Nat.lt_of_lt_of_le (pu_val_lt _ _ _ n3) (Nat.pow_le_pow_right (by decide) n2)
theorem lfG_lt {s : List Nat} {ws : List (Nat × Nat)} {j ti : Nat} (h : okK s ws j 108 = true) (ht : ti < 2 ^ 30) : lfG s ws j ti < 2 ^ 31 := by
  unfold lfG
  split
  · omega
  · rename_i hm
    split
    · decide
    · have := num_lt (okK_l h (by cases hh : hmin s ws j <;> first | rfl | exact absurd hh hm))
      omega
/-- touch: the items, the numbers, the text's number -/
def tch (s : List Nat) (ws : List (Nat × Nat)) (nn : NN) (L : List It) : List It × NN × Nat := match fnd (wt s ws 1) L with
  | none => (L, nn, 7)
  | some x => if nn.2.1 < lfG s ws 2 nn.2.1 then ((iK x, iD x, iF x, iT x, lfG s ws 2 nn.2.1) :: rmv (wt s ws 1) L, nn, 9) else (rmv (wt s ws 1) L, (nn.1, nn.2.1, nn.2.2.1, nn.2.2.2.1, nn.2.2.2.2 + 1), 9)
def T_Clerk_touch (G : sp_G) : sp_T := fun av M Post => ∃ A sh W pg os fr Q nn X N ws L, av = [.ref (A 14)] ∧ kS G M A sh W pg os fr Q nn X N ws ∧ kOk X N ws ∧ absR os Q L ∧ X 2 = [] ∧ okK (X 0) ws 2 108 = true ∧
  ∀ M' os' fr' Q' nn' L' a', tch (X 0) ws nn L = (L', nn', a') → kS G M' A sh W pg os' fr' Q' nn' (up X 2 (sv a')) N ws → absR os' Q' L' → ffr M M' W W → Post none M'
set_option maxHeartbeats 4000000 in
set_option maxRecDepth 100000 in
theorem c_Clerk_touch (l : Launch) (G : sp_G) : sp_Met l G y_Clerk_touch b_Clerk_touch 2 none { frames := 5, locals := 107 } (T_Clerk_touch G) := by
  refine sp_entry (by decide) (fun av M Post h => ?_) (fun z M av Post hz _ hT => ?_)
  · obtain ⟨A, sh, W, pg, os, fr, Q, nn, X, N, ws, L, rfl, -⟩ := h
    exact Nat.le_of_ble_eq_true rfl
  · obtain ⟨A, sh, W, pg, os, fr, Q, nn, X, N, ws, L, rfl, hk, hok, habs, hX2, hl, hp⟩ := hT
    have h14 := hk.2.1
    have hc0 := hk.cm hok
    have hti := hk.mm.2.2.2.2.2
    refine sp_run hz _ _ e_Clerk_touch_0 _ _ _ ?_
    simp only [k_Clerk_touch_0, E_nil, E_iconst, E_bipush, E_sipush, E_ldc, E_ldc2, E_lconst, E_null, E_iload_n, E_lload_n, E_aload_n, E_istore_n, E_lstore_n, E_astore_n, E_astoreN_n, E_iload, E_lload, E_aload, E_istore, E_lstore, E_astore, E_astoreN, E_ldi, E_ldl, E_lda, E_ldN, E_iinc, E_iadd, E_isub, E_imul, E_iand, E_ior, E_ixor, E_ishl, E_ishr, E_idiv, E_irem, E_ineg, E_ladd, E_lsub, E_land, E_lor, E_lcmp, E_lshl, E_lshr, E_lushr, E_i2l, E_l2i, E_i2c, E_dupI, E_popI, E_dup_x1II, E_dup2II, E_dup_x1IR, E_dup2IR, E_dup_x1IN, E_dup2IN, E_dupR, E_popR, E_dup_x1RI, E_dup2RI, E_dup_x1RR, E_dup2RR, E_dup_x1RN, E_dup2RN, E_dupN, E_popN, E_dup_x1NI, E_dup2NI, E_dup_x1NR, E_dup2NR, E_dup_x1NN, E_dup2NN, E_goto, E_if_eq, E_if_ne, E_if_lt, E_if_ge, E_if_gt, E_if_le, E_ic_eq, E_ic_ne, E_ic_lt, E_ic_ge, E_ic_gt, E_ic_le, E_ifnull, E_ifnullN, E_ifnonnull, E_ifnonnullN, E_get, E_gf, E_xv, E_n0, E_ns, E_putI, E_putR, E_putN, E_pf, E_st0, E_sts, E_iaload, E_caload, E_laload, E_aaload, E_alen, E_iast, E_cast, E_last, E_xI, E_xJ, E_xQ, E_xN, E_lk, E_lkn, E_s1, E_s1h, E_s1I, E_s1R, E_s1N, E_s1L, E_s2, E_s2h, E_s2L, E_s2I, E_s2R, E_s2N, E_a1, E_a0, E_aI, E_aR, E_aN, E_aL, Option.isSome_some, eq_self, true_and, and_true, true_or, or_true, ne_eq, not_false_eq_true, not_true_eq_false, reduceIte, reduceCtorEq, Nat.reduceAdd, Nat.reduceBEq, Nat.reduceEqDiff, Option.toList_some, Option.toList_none, List.cons_append, List.nil_append]
    refine sp_callV hz (c_Clerk_find l G) (ci := 6) (As := [.int (nI 1)]) (rest := []) rfl w_Clerk_117 (by decide) h14 rfl (Nat.le_of_ble_eq_true rfl) d_Clerk_touch_2 ⟨A, sh, W, pg, os, fr, Q, nn, X, N, ws, 1, rfl, hk, hok, by decide, fun hno => ?_, fun i k c hi hc he => ?_⟩ rfl
    · have hn : fnd (wt (X 0) ws 1) L = none := fnd_none (habs.none hno)
      unfold tch at hp
      rw [hn] at hp
      refine sp_run hz _ _ e_Clerk_touch_5 _ _ _ ?_
      simp only [k_Clerk_touch_5, E_nil, E_iconst, E_bipush, E_sipush, E_ldc, E_ldc2, E_lconst, E_null, E_iload_n, E_lload_n, E_aload_n, E_istore_n, E_lstore_n, E_astore_n, E_astoreN_n, E_iload, E_lload, E_aload, E_istore, E_lstore, E_astore, E_astoreN, E_ldi, E_ldl, E_lda, E_ldN, E_iinc, E_iadd, E_isub, E_imul, E_iand, E_ior, E_ixor, E_ishl, E_ishr, E_idiv, E_irem, E_ineg, E_ladd, E_lsub, E_land, E_lor, E_lcmp, E_lshl, E_lshr, E_lushr, E_i2l, E_l2i, E_i2c, E_dupI, E_popI, E_dup_x1II, E_dup2II, E_dup_x1IR, E_dup2IR, E_dup_x1IN, E_dup2IN, E_dupR, E_popR, E_dup_x1RI, E_dup2RI, E_dup_x1RR, E_dup2RR, E_dup_x1RN, E_dup2RN, E_dupN, E_popN, E_dup_x1NI, E_dup2NI, E_dup_x1NR, E_dup2NR, E_dup_x1NN, E_dup2NN, E_goto, E_if_eq, E_if_ne, E_if_lt, E_if_ge, E_if_gt, E_if_le, E_ic_eq, E_ic_ne, E_ic_lt, E_ic_ge, E_ic_gt, E_ic_le, E_ifnull, E_ifnullN, E_ifnonnull, E_ifnonnullN, E_get, E_gf, E_xv, E_n0, E_ns, E_putI, E_putR, E_putN, E_pf, E_st0, E_sts, E_iaload, E_caload, E_laload, E_aaload, E_alen, E_iast, E_cast, E_last, E_xI, E_xJ, E_xQ, E_xN, E_lk, E_lkn, E_s1, E_s1h, E_s1I, E_s1R, E_s1N, E_s1L, E_s2, E_s2h, E_s2L, E_s2I, E_s2R, E_s2N, E_a1, E_a0, E_aI, E_aR, E_aN, E_aL, Option.isSome_some, eq_self, true_and, and_true, true_or, or_true, ne_eq, not_false_eq_true, not_true_eq_false, reduceIte, reduceCtorEq, Nat.reduceAdd, Nat.reduceBEq, Nat.reduceEqDiff, Option.toList_some, Option.toList_none, List.cons_append, List.nil_append, h14, kCk]
      refine sp_ldcS hz 7 (by decide) rfl rfl d_Clerk_touch_14 ?_
      have hk' := hk.st2 hX2
      refine sp_callV hz (c_Text_addWritten l G) (ci := 0) (As := [.ref (G.2.2 (100 + 7))]) (rest := []) rfl w_Clerk_50 (by decide) hk'.an.1 rfl (Nat.le_of_ble_eq_true rfl) d_Clerk_touch_16 ⟨A 2, _, _, [], 7, rfl, hk'.an, by decide, fun M2 t2 o2 => ?_⟩ rfl
      obtain ⟨hk2, hf2⟩ := hk'.add t2 o2 (by decide)
      refine sp_run hz _ _ e_Clerk_touch_19 _ _ _ ?_
      simp only [k_Clerk_touch_19, E_nil, E_iconst, E_bipush, E_sipush, E_ldc, E_ldc2, E_lconst, E_null, E_iload_n, E_lload_n, E_aload_n, E_istore_n, E_lstore_n, E_astore_n, E_astoreN_n, E_iload, E_lload, E_aload, E_istore, E_lstore, E_astore, E_astoreN, E_ldi, E_ldl, E_lda, E_ldN, E_iinc, E_iadd, E_isub, E_imul, E_iand, E_ior, E_ixor, E_ishl, E_ishr, E_idiv, E_irem, E_ineg, E_ladd, E_lsub, E_land, E_lor, E_lcmp, E_lshl, E_lshr, E_lushr, E_i2l, E_l2i, E_i2c, E_dupI, E_popI, E_dup_x1II, E_dup2II, E_dup_x1IR, E_dup2IR, E_dup_x1IN, E_dup2IN, E_dupR, E_popR, E_dup_x1RI, E_dup2RI, E_dup_x1RR, E_dup2RR, E_dup_x1RN, E_dup2RN, E_dupN, E_popN, E_dup_x1NI, E_dup2NI, E_dup_x1NR, E_dup2NR, E_dup_x1NN, E_dup2NN, E_goto, E_if_eq, E_if_ne, E_if_lt, E_if_ge, E_if_gt, E_if_le, E_ic_eq, E_ic_ne, E_ic_lt, E_ic_ge, E_ic_gt, E_ic_le, E_ifnull, E_ifnullN, E_ifnonnull, E_ifnonnullN, E_get, E_gf, E_xv, E_n0, E_ns, E_putI, E_putR, E_putN, E_pf, E_st0, E_sts, E_iaload, E_caload, E_laload, E_aaload, E_alen, E_iast, E_cast, E_last, E_xI, E_xJ, E_xQ, E_xN, E_lk, E_lkn, E_s1, E_s1h, E_s1I, E_s1R, E_s1N, E_s1L, E_s2, E_s2h, E_s2L, E_s2I, E_s2R, E_s2N, E_a1, E_a0, E_aI, E_aR, E_aN, E_aL, Option.isSome_some, eq_self, true_and, and_true, true_or, or_true, ne_eq, not_false_eq_true, not_true_eq_false, reduceIte, reduceCtorEq, Nat.reduceAdd, Nat.reduceBEq, Nat.reduceEqDiff, Option.toList_some, Option.toList_none, List.cons_append, List.nil_append]
      exact sp_vret hz d_Clerk_touch_47 (Nat.le_refl _) (Nat.le_refl _) (hp M2 os fr Q nn L 7 rfl hk2 habs hf2)
    · obtain ⟨hmem, hcl⟩ := habs.mem hi hc
      have hx : fnd (wt (X 0) ws 1) L = some (cI (Q c)) := fnd_some habs.2.2 hmem he
      unfold tch at hp
      rw [hx] at hp
      dsimp only at hp
      have go : ∀ y : Int32, (y = 0 → lfG (X 0) ws 2 nn.2.1 = 2147483647) → (y < 0 → lfG (X 0) ws 2 nn.2.1 = nn.2.1) → (∀ k, y = nI k → 0 < k → k < 2 ^ 31 → lfG (X 0) ws 2 nn.2.1 = nn.2.1 + k) → sp_W z G M (sp_Q z G M Post 0 0) 2 0 0 35 [(1, .ref c), (0, .ref (A 14))] [.int y, .ref c, .ref (A 4)] M := by
        intro y y0 y1 y2
        have fin : ∀ M1 os1 fr1 Q1 nn1 L1, (if nn.2.1 < lfG (X 0) ws 2 nn.2.1 then ((iK (cI (Q c)), iD (cI (Q c)), iF (cI (Q c)), iT (cI (Q c)), lfG (X 0) ws 2 nn.2.1) :: rmv (wt (X 0) ws 1) L, nn, 9) else (rmv (wt (X 0) ws 1) L, (nn.1, nn.2.1, nn.2.2.1, nn.2.2.2.1, nn.2.2.2.2 + 1), 9)) = (L1, nn1, 9) → mem G M1 (A 4) (A 5) sh W pg os1 fr1 Q1 nn1 → mfr M M1 W → absR os1 Q1 L1 → sp_W z G M (sp_Q z G M Post 0 0) 2 0 0 38 [(1, .ref c), (0, .ref (A 14))] [] M1 := by
          intro M1 os1 fr1 Q1 nn1 L1 e1 hm1 hf1 ha1
          have hk1 := hk.mem' hf1.w hm1
          have h14 := hk1.2.1
          have hk' := hk1.st2 hX2
          refine sp_run hz _ _ e_Clerk_touch_38 _ _ _ ?_
          simp only [k_Clerk_touch_38, E_nil, E_iconst, E_bipush, E_sipush, E_ldc, E_ldc2, E_lconst, E_null, E_iload_n, E_lload_n, E_aload_n, E_istore_n, E_lstore_n, E_astore_n, E_astoreN_n, E_iload, E_lload, E_aload, E_istore, E_lstore, E_astore, E_astoreN, E_ldi, E_ldl, E_lda, E_ldN, E_iinc, E_iadd, E_isub, E_imul, E_iand, E_ior, E_ixor, E_ishl, E_ishr, E_idiv, E_irem, E_ineg, E_ladd, E_lsub, E_land, E_lor, E_lcmp, E_lshl, E_lshr, E_lushr, E_i2l, E_l2i, E_i2c, E_dupI, E_popI, E_dup_x1II, E_dup2II, E_dup_x1IR, E_dup2IR, E_dup_x1IN, E_dup2IN, E_dupR, E_popR, E_dup_x1RI, E_dup2RI, E_dup_x1RR, E_dup2RR, E_dup_x1RN, E_dup2RN, E_dupN, E_popN, E_dup_x1NI, E_dup2NI, E_dup_x1NR, E_dup2NR, E_dup_x1NN, E_dup2NN, E_goto, E_if_eq, E_if_ne, E_if_lt, E_if_ge, E_if_gt, E_if_le, E_ic_eq, E_ic_ne, E_ic_lt, E_ic_ge, E_ic_gt, E_ic_le, E_ifnull, E_ifnullN, E_ifnonnull, E_ifnonnullN, E_get, E_gf, E_xv, E_n0, E_ns, E_putI, E_putR, E_putN, E_pf, E_st0, E_sts, E_iaload, E_caload, E_laload, E_aaload, E_alen, E_iast, E_cast, E_last, E_xI, E_xJ, E_xQ, E_xN, E_lk, E_lkn, E_s1, E_s1h, E_s1I, E_s1R, E_s1N, E_s1L, E_s2, E_s2h, E_s2L, E_s2I, E_s2R, E_s2N, E_a1, E_a0, E_aI, E_aR, E_aN, E_aL, Option.isSome_some, eq_self, true_and, and_true, true_or, or_true, ne_eq, not_false_eq_true, not_true_eq_false, reduceIte, reduceCtorEq, Nat.reduceAdd, Nat.reduceBEq, Nat.reduceEqDiff, Option.toList_some, Option.toList_none, List.cons_append, List.nil_append, h14, kCk]
          refine sp_ldcS hz 9 (by decide) rfl rfl d_Clerk_touch_42 ?_
          refine sp_callV hz (c_Text_addWritten l G) (ci := 0) (As := [.ref (G.2.2 (100 + 9))]) (rest := []) rfl w_Clerk_50 (by decide) hk'.an.1 rfl (Nat.le_of_ble_eq_true rfl) d_Clerk_touch_44 ⟨A 2, _, _, [], 9, rfl, hk'.an, by decide, fun M2 t2 o2 => ?_⟩ rfl
          obtain ⟨hk2, hf2⟩ := hk'.add t2 o2 (by decide)
          exact sp_vret hz d_Clerk_touch_47 (Nat.le_refl _) (Nat.le_refl _) (hp M2 os1 fr1 Q1 nn1 L1 9 e1 hk2 ha1 (hf1.w.f.trans hf2))
        have hnd := (hk.mm.2.2.2.1 i hi).1.2.2.2.1
        refine sp_callV hz (c_Memory_touch l G) (ci := 3) (As := [.ref c, .int y]) (rest := []) rfl w_Clerk_176 (by decide) hk.mm.1 rfl (Nat.le_of_ble_eq_true rfl) d_Clerk_touch_35 ⟨A 4, A 5, sh, W, pg, os, fr, Q, nn, i, k, c, y, lfG (X 0) ws 2 nn.2.1, rfl, hk.mm, hi, hc, lfG_lt hl hti, y0, y1, y2, fun hlt M1 hm1 hf1 => ?_, fun hle M1 hm1 hf1 => ?_⟩ rfl
        · refine fin M1 _ _ _ _ _ (by rw [if_pos hlt]) hm1 hf1 ?_
          have := habs.front (Q' := up Q c (cFl (Q c), cTk (Q c), lfG (X 0) ws 2 nn.2.1, (Q c).2.2.2)) hi hc (fun x hx => up_n _ _ hx) (by rw [up_s]) (by rw [up_s]) hnd (hk.mm.apart hi hc)
          rw [up_s, he] at this
          exact this
        · refine fin M1 _ _ _ _ _ (by rw [if_neg (Nat.not_lt.mpr hle)]) hm1 hf1 ?_
          have h1 := habs.rm hi hc
          rw [he] at h1
          refine h1.congr (fun j hj x hx => ?_)
          rw [up_n _ _ (fun e => ?_)]
          by_cases e2 : j = i
          · rw [e2, up_s, e] at hx
            obtain ⟨k2, hk2⟩ := mem_get hx
            exact ni_self hnd hc k2 hk2
          · rw [up_n _ _ e2, e] at hx
            exact hk.mm.apart hi hc j hj e2 hx
      refine sp_run hz _ _ e_Clerk_touch_5 _ _ _ ?_
      simp only [k_Clerk_touch_5, E_nil, E_iconst, E_bipush, E_sipush, E_ldc, E_ldc2, E_lconst, E_null, E_iload_n, E_lload_n, E_aload_n, E_istore_n, E_lstore_n, E_astore_n, E_astoreN_n, E_iload, E_lload, E_aload, E_istore, E_lstore, E_astore, E_astoreN, E_ldi, E_ldl, E_lda, E_ldN, E_iinc, E_iadd, E_isub, E_imul, E_iand, E_ior, E_ixor, E_ishl, E_ishr, E_idiv, E_irem, E_ineg, E_ladd, E_lsub, E_land, E_lor, E_lcmp, E_lshl, E_lshr, E_lushr, E_i2l, E_l2i, E_i2c, E_dupI, E_popI, E_dup_x1II, E_dup2II, E_dup_x1IR, E_dup2IR, E_dup_x1IN, E_dup2IN, E_dupR, E_popR, E_dup_x1RI, E_dup2RI, E_dup_x1RR, E_dup2RR, E_dup_x1RN, E_dup2RN, E_dupN, E_popN, E_dup_x1NI, E_dup2NI, E_dup_x1NR, E_dup2NR, E_dup_x1NN, E_dup2NN, E_goto, E_if_eq, E_if_ne, E_if_lt, E_if_ge, E_if_gt, E_if_le, E_ic_eq, E_ic_ne, E_ic_lt, E_ic_ge, E_ic_gt, E_ic_le, E_ifnull, E_ifnullN, E_ifnonnull, E_ifnonnullN, E_get, E_gf, E_xv, E_n0, E_ns, E_putI, E_putR, E_putN, E_pf, E_st0, E_sts, E_iaload, E_caload, E_laload, E_aaload, E_alen, E_iast, E_cast, E_last, E_xI, E_xJ, E_xQ, E_xN, E_lk, E_lkn, E_s1, E_s1h, E_s1I, E_s1R, E_s1N, E_s1L, E_s2, E_s2h, E_s2L, E_s2I, E_s2R, E_s2N, E_a1, E_a0, E_aI, E_aR, E_aN, E_aL, Option.isSome_some, eq_self, true_and, and_true, true_or, or_true, ne_eq, not_false_eq_true, not_true_eq_false, reduceIte, reduceCtorEq, Nat.reduceAdd, Nat.reduceBEq, Nat.reduceEqDiff, Option.toList_some, Option.toList_none, List.cons_append, List.nil_append]
      refine sp_run hz _ _ e_Clerk_touch_22 _ _ _ ?_
      simp only [k_Clerk_touch_22, E_nil, E_iconst, E_bipush, E_sipush, E_ldc, E_ldc2, E_lconst, E_null, E_iload_n, E_lload_n, E_aload_n, E_istore_n, E_lstore_n, E_astore_n, E_astoreN_n, E_iload, E_lload, E_aload, E_istore, E_lstore, E_astore, E_astoreN, E_ldi, E_ldl, E_lda, E_ldN, E_iinc, E_iadd, E_isub, E_imul, E_iand, E_ior, E_ixor, E_ishl, E_ishr, E_idiv, E_irem, E_ineg, E_ladd, E_lsub, E_land, E_lor, E_lcmp, E_lshl, E_lshr, E_lushr, E_i2l, E_l2i, E_i2c, E_dupI, E_popI, E_dup_x1II, E_dup2II, E_dup_x1IR, E_dup2IR, E_dup_x1IN, E_dup2IN, E_dupR, E_popR, E_dup_x1RI, E_dup2RI, E_dup_x1RR, E_dup2RR, E_dup_x1RN, E_dup2RN, E_dupN, E_popN, E_dup_x1NI, E_dup2NI, E_dup_x1NR, E_dup2NR, E_dup_x1NN, E_dup2NN, E_goto, E_if_eq, E_if_ne, E_if_lt, E_if_ge, E_if_gt, E_if_le, E_ic_eq, E_ic_ne, E_ic_lt, E_ic_ge, E_ic_gt, E_ic_le, E_ifnull, E_ifnullN, E_ifnonnull, E_ifnonnullN, E_get, E_gf, E_xv, E_n0, E_ns, E_putI, E_putR, E_putN, E_pf, E_st0, E_sts, E_iaload, E_caload, E_laload, E_aaload, E_alen, E_iast, E_cast, E_last, E_xI, E_xJ, E_xQ, E_xN, E_lk, E_lkn, E_s1, E_s1h, E_s1I, E_s1R, E_s1N, E_s1L, E_s2, E_s2h, E_s2L, E_s2I, E_s2R, E_s2N, E_a1, E_a0, E_aI, E_aR, E_aN, E_aL, Option.isSome_some, eq_self, true_and, and_true, true_or, or_true, ne_eq, not_false_eq_true, not_true_eq_false, reduceIte, reduceCtorEq, Nat.reduceAdd, Nat.reduceBEq, Nat.reduceEqDiff, Option.toList_some, Option.toList_none, List.cons_append, List.nil_append, h14, kCk]
      refine sp_callV hz (c_Command_life l G) (ci := 4) (As := [.int (nI 2)]) (rest := [.ref c, .ref (A 4)]) rfl w_Clerk_173 (by decide) hc0.1 rfl (Nat.le_of_ble_eq_true rfl) d_Clerk_touch_32 ⟨_, _, _, _, _, _, ws, _, _, 2, rfl, hc0, by decide, fun hm => ?_, fun hm => ⟨okK_l hl hm, ?_⟩⟩ rfl
      · have e : lfG (X 0) ws 2 nn.2.1 = nn.2.1 := if_pos hm
        exact go (-1) (fun h => absurd h (by decide)) (fun _ => e) (fun k h h2 h3 => absurd h (fun q => by
          have := nI_pos h3
          rw [← q] at this
          exact this (by decide)))
      · have hnm : ¬ hmin (X 0) ws 2 = true := by rw [hm]; decide
        have hv := num_lt (okK_l hl hm)
        refine go _ (fun h => ?_) (fun h => absurd h (nI_pos (by omega))) (fun k h h2 h3 => ?_)
        · have : pu_val (wt (X 0) ws 2) = 0 := (nI_eq (by omega) (by decide)).mp (h.trans nI_0.symm)
          unfold lfG
          rw [if_neg hnm, if_pos this]
        · have : pu_val (wt (X 0) ws 2) = k := (nI_eq (by omega) h3).mp h
          unfold lfG
          rw [if_neg hnm, if_neg (by omega), this]
/-- the line's data -/
def lnD (s : List Nat) (ce : Nat) : List Nat := pu_seg s (ce + 1) (s.length - (ce + 1))
section KD
variable {G : sp_G} {M M' : sp_M} {A sh W W' pg pg' : Nat → Nat} {os fr os' fr' : Nat → List Nat} {Q Q' : Nat → CR} {nn nn' : NN} {X : Nat → List Nat} {N : Nat → Nat} {ws : List (Nat × Nat)} {L : List It}
theorem kOk_t {t : Nat} {s' : List Nat} (h : kOk X N ws) (ht : t ≠ 0) : kOk (up X t s') N ws := by
  obtain ⟨h1, h2, h3, h4⟩ := h
  exact ⟨h1, h2, h3, by rw [up_n _ _ (Ne.symm ht)]; exact h4⟩
end KD
def T_Clerk_addDataOfLine (G : sp_G) : sp_T := fun av M Post => ∃ A sh W pg os fr Q nn X N ws, av = [.ref (A 14)] ∧ kS G M A sh W pg os fr Q nn X N ws ∧ kOk X N ws ∧ N 5 < (X 0).length ∧ (X 12).length ≤ 64 ∧
  ∀ M', kS G M' A sh W pg os fr Q nn (up X 12 (X 12 ++ lnD (X 0) (N 5))) N ws → ffr M M' W W → Post none M'
set_option maxHeartbeats 4000000 in
set_option maxRecDepth 100000 in
theorem c_Clerk_addDataOfLine (l : Launch) (G : sp_G) : sp_Met l G y_Clerk_addDataOfLine b_Clerk_addDataOfLine 1 none { frames := 2, locals := 45 } (T_Clerk_addDataOfLine G) := by
  refine sp_entry (by decide) (fun av M Post h => ?_) (fun z M av Post hz _ hT => ?_)
  · obtain ⟨A, sh, W, pg, os, fr, Q, nn, X, N, ws, rfl, -⟩ := h
    exact Nat.le_of_ble_eq_true rfl
  · obtain ⟨A, sh, W, pg, os, fr, Q, nn, X, N, ws, rfl, hk, hok, hlt, hd64, hp⟩ := hT
    have h14 := hk.2.1
    have h9 := hk.2.2.1
    have hc0 := hk.cm hok
    have h140 : (X 0).length ≤ 140 := (hk.T x0).2.1
    refine sp_run hz _ _ e_Clerk_addDataOfLine_0 _ _ _ ?_
    simp only [k_Clerk_addDataOfLine_0, E_nil, E_iconst, E_bipush, E_sipush, E_ldc, E_ldc2, E_lconst, E_null, E_iload_n, E_lload_n, E_aload_n, E_istore_n, E_lstore_n, E_astore_n, E_astoreN_n, E_iload, E_lload, E_aload, E_istore, E_lstore, E_astore, E_astoreN, E_ldi, E_ldl, E_lda, E_ldN, E_iinc, E_iadd, E_isub, E_imul, E_iand, E_ior, E_ixor, E_ishl, E_ishr, E_idiv, E_irem, E_ineg, E_ladd, E_lsub, E_land, E_lor, E_lcmp, E_lshl, E_lshr, E_lushr, E_i2l, E_l2i, E_i2c, E_dupI, E_popI, E_dup_x1II, E_dup2II, E_dup_x1IR, E_dup2IR, E_dup_x1IN, E_dup2IN, E_dupR, E_popR, E_dup_x1RI, E_dup2RI, E_dup_x1RR, E_dup2RR, E_dup_x1RN, E_dup2RN, E_dupN, E_popN, E_dup_x1NI, E_dup2NI, E_dup_x1NR, E_dup2NR, E_dup_x1NN, E_dup2NN, E_goto, E_if_eq, E_if_ne, E_if_lt, E_if_ge, E_if_gt, E_if_le, E_ic_eq, E_ic_ne, E_ic_lt, E_ic_ge, E_ic_gt, E_ic_le, E_ifnull, E_ifnullN, E_ifnonnull, E_ifnonnullN, E_get, E_gf, E_xv, E_n0, E_ns, E_putI, E_putR, E_putN, E_pf, E_st0, E_sts, E_iaload, E_caload, E_laload, E_aaload, E_alen, E_iast, E_cast, E_last, E_xI, E_xJ, E_xQ, E_xN, E_lk, E_lkn, E_s1, E_s1h, E_s1I, E_s1R, E_s1N, E_s1L, E_s2, E_s2h, E_s2L, E_s2I, E_s2R, E_s2N, E_a1, E_a0, E_aI, E_aR, E_aN, E_aL, Option.isSome_some, eq_self, true_and, and_true, true_or, or_true, ne_eq, not_false_eq_true, not_true_eq_false, reduceIte, reduceCtorEq, Nat.reduceAdd, Nat.reduceBEq, Nat.reduceEqDiff, Option.toList_some, Option.toList_none, List.cons_append, List.nil_append, h14, h9, kCk, kDr]
    refine sp_callV hz (c_Command_dataStart l G) (ci := 4) (As := []) (rest := [.ref (A 0), .ref (A 12)]) rfl w_Clerk_261 (by decide) hc0.1 rfl (Nat.le_of_ble_eq_true rfl) d_Clerk_addDataOfLine_15 ⟨_, _, _, _, _, _, ws, _, _, rfl, hc0, ?_⟩ rfl
    refine sp_run hz _ _ e_Clerk_addDataOfLine_18 _ _ _ ?_
    simp only [k_Clerk_addDataOfLine_18, E_nil, E_iconst, E_bipush, E_sipush, E_ldc, E_ldc2, E_lconst, E_null, E_iload_n, E_lload_n, E_aload_n, E_istore_n, E_lstore_n, E_astore_n, E_astoreN_n, E_iload, E_lload, E_aload, E_istore, E_lstore, E_astore, E_astoreN, E_ldi, E_ldl, E_lda, E_ldN, E_iinc, E_iadd, E_isub, E_imul, E_iand, E_ior, E_ixor, E_ishl, E_ishr, E_idiv, E_irem, E_ineg, E_ladd, E_lsub, E_land, E_lor, E_lcmp, E_lshl, E_lshr, E_lushr, E_i2l, E_l2i, E_i2c, E_dupI, E_popI, E_dup_x1II, E_dup2II, E_dup_x1IR, E_dup2IR, E_dup_x1IN, E_dup2IN, E_dupR, E_popR, E_dup_x1RI, E_dup2RI, E_dup_x1RR, E_dup2RR, E_dup_x1RN, E_dup2RN, E_dupN, E_popN, E_dup_x1NI, E_dup2NI, E_dup_x1NR, E_dup2NR, E_dup_x1NN, E_dup2NN, E_goto, E_if_eq, E_if_ne, E_if_lt, E_if_ge, E_if_gt, E_if_le, E_ic_eq, E_ic_ne, E_ic_lt, E_ic_ge, E_ic_gt, E_ic_le, E_ifnull, E_ifnullN, E_ifnonnull, E_ifnonnullN, E_get, E_gf, E_xv, E_n0, E_ns, E_putI, E_putR, E_putN, E_pf, E_st0, E_sts, E_iaload, E_caload, E_laload, E_aaload, E_alen, E_iast, E_cast, E_last, E_xI, E_xJ, E_xQ, E_xN, E_lk, E_lkn, E_s1, E_s1h, E_s1I, E_s1R, E_s1N, E_s1L, E_s2, E_s2h, E_s2L, E_s2I, E_s2R, E_s2N, E_a1, E_a0, E_aI, E_aR, E_aN, E_aL, Option.isSome_some, eq_self, true_and, and_true, true_or, or_true, ne_eq, not_false_eq_true, not_true_eq_false, reduceIte, reduceCtorEq, Nat.reduceAdd, Nat.reduceBEq, Nat.reduceEqDiff, Option.toList_some, Option.toList_none, List.cons_append, List.nil_append, h14, kCk]
    refine sp_callV hz (c_Command_dataLength l G) (ci := 4) (As := []) (rest := [.int (nI (N 5 + 1)), .ref (A 0), .ref (A 12)]) rfl w_Clerk_264 (by decide) hc0.1 rfl (Nat.le_of_ble_eq_true rfl) d_Clerk_addDataOfLine_22 ⟨_, _, _, _, _, _, ws, _, _, rfl, hc0, ?_⟩ rfl
    rw [pk_sub (by omega)]
    refine sp_callV hz (c_Text_addPart l G) (ci := 0) (As := [.ref (A 0), .int (nI (N 5 + 1)), .int (nI ((X 0).length - (N 5 + 1)))]) (rest := []) rfl w_Clerk_216 (by decide) (hk.T x12).1 rfl (Nat.le_of_ble_eq_true rfl) d_Clerk_addDataOfLine_25 ⟨A 12, _, _, _, A 0, _, _, X 0, N 5 + 1, (X 0).length - (N 5 + 1), rfl, hk.T x12, hk.T x0, hk.nA (by decide) (by decide) (by decide) (by decide) (by decide), hk.nA (i := 1) (j := 13) (by decide) (by decide) (by decide) (by decide) (by decide), by omega, by omega, fun M1 t1 o1 => ?_⟩ rfl
    rw [pu_app_fits _ _ _ (by rw [pu_seg_len]; show _ ≤ 204; omega)] at t1
    obtain ⟨hk1, hf1⟩ := hk.text x12 t1 o1
    exact sp_vret hz d_Clerk_addDataOfLine_28 (Nat.le_refl _) (Nat.le_refl _) (hp M1 hk1 hf1)
def T_Clerk_beginDraft (G : sp_G) : sp_T := fun av M Post => ∃ A sh W pg os fr Q nn X N ws fl gn, av = [.ref (A 14), .int (nI fl), .int (nI gn)] ∧ kS G M A sh W pg os fr Q nn X N ws ∧ kOk X N ws ∧ wL ws 1 ≤ 8 ∧
  ∀ M', kS G M' A sh W pg os fr Q nn (up (up X 10 (wt (X 0) ws 1)) 12 []) (up (up N 2 fl) 3 gn) ws → ffr M M' W W → Post none M'
set_option maxHeartbeats 4000000 in
set_option maxRecDepth 100000 in
theorem c_Clerk_beginDraft (l : Launch) (G : sp_G) : sp_Met l G y_Clerk_beginDraft b_Clerk_beginDraft 3 none { frames := 2, locals := 45 } (T_Clerk_beginDraft G) := by
  refine sp_entry (by decide) (fun av M Post h => ?_) (fun z M av Post hz _ hT => ?_)
  · obtain ⟨A, sh, W, pg, os, fr, Q, nn, X, N, ws, fl, gn, rfl, -⟩ := h
    exact Nat.le_of_ble_eq_true rfl
  · obtain ⟨A, sh, W, pg, os, fr, Q, nn, X, N, ws, fl, gn, rfl, hk, hok, hl8, hp⟩ := hT
    have h14 := hk.2.1
    have h9 := hk.2.2.1
    have hb := wSL_bd hok.2.2.1 1
    refine sp_run hz _ _ e_Clerk_beginDraft_0 _ _ _ ?_
    simp only [k_Clerk_beginDraft_0, E_nil, E_iconst, E_bipush, E_sipush, E_ldc, E_ldc2, E_lconst, E_null, E_iload_n, E_lload_n, E_aload_n, E_istore_n, E_lstore_n, E_astore_n, E_astoreN_n, E_iload, E_lload, E_aload, E_istore, E_lstore, E_astore, E_astoreN, E_ldi, E_ldl, E_lda, E_ldN, E_iinc, E_iadd, E_isub, E_imul, E_iand, E_ior, E_ixor, E_ishl, E_ishr, E_idiv, E_irem, E_ineg, E_ladd, E_lsub, E_land, E_lor, E_lcmp, E_lshl, E_lshr, E_lushr, E_i2l, E_l2i, E_i2c, E_dupI, E_popI, E_dup_x1II, E_dup2II, E_dup_x1IR, E_dup2IR, E_dup_x1IN, E_dup2IN, E_dupR, E_popR, E_dup_x1RI, E_dup2RI, E_dup_x1RR, E_dup2RR, E_dup_x1RN, E_dup2RN, E_dupN, E_popN, E_dup_x1NI, E_dup2NI, E_dup_x1NR, E_dup2NR, E_dup_x1NN, E_dup2NN, E_goto, E_if_eq, E_if_ne, E_if_lt, E_if_ge, E_if_gt, E_if_le, E_ic_eq, E_ic_ne, E_ic_lt, E_ic_ge, E_ic_gt, E_ic_le, E_ifnull, E_ifnullN, E_ifnonnull, E_ifnonnullN, E_get, E_gf, E_xv, E_n0, E_ns, E_putI, E_putR, E_putN, E_pf, E_st0, E_sts, E_iaload, E_caload, E_laload, E_aaload, E_alen, E_iast, E_cast, E_last, E_xI, E_xJ, E_xQ, E_xN, E_lk, E_lkn, E_s1, E_s1h, E_s1I, E_s1R, E_s1N, E_s1L, E_s2, E_s2h, E_s2L, E_s2I, E_s2R, E_s2N, E_a1, E_a0, E_aI, E_aR, E_aN, E_aL, Option.isSome_some, eq_self, true_and, and_true, true_or, or_true, ne_eq, not_false_eq_true, not_true_eq_false, reduceIte, reduceCtorEq, Nat.reduceAdd, Nat.reduceBEq, Nat.reduceEqDiff, Option.toList_some, Option.toList_none, List.cons_append, List.nil_append, h14, h9, kCk, kDr]
    refine sp_callV hz (c_Text_clear l G) (ci := 0) (As := []) (rest := []) rfl w_Clerk_100 (by decide) (hk.T x10).1 rfl (Nat.le_of_ble_eq_true rfl) d_Clerk_beginDraft_7 ⟨A 10, _, _, _, rfl, hk.T x10, fun M1 t1 o1 => ?_⟩ rfl
    obtain ⟨hk1, hf1⟩ := hk.text x10 t1 o1
    have hok1 := kOk_t (t := 10) (s' := []) hok (by decide)
    have hc1 := hk1.cm hok1
    have h14 := hk1.2.1
    have h9 := hk1.2.2.1
    refine sp_run hz _ _ e_Clerk_beginDraft_10 _ _ _ ?_
    simp only [k_Clerk_beginDraft_10, E_nil, E_iconst, E_bipush, E_sipush, E_ldc, E_ldc2, E_lconst, E_null, E_iload_n, E_lload_n, E_aload_n, E_istore_n, E_lstore_n, E_astore_n, E_astoreN_n, E_iload, E_lload, E_aload, E_istore, E_lstore, E_astore, E_astoreN, E_ldi, E_ldl, E_lda, E_ldN, E_iinc, E_iadd, E_isub, E_imul, E_iand, E_ior, E_ixor, E_ishl, E_ishr, E_idiv, E_irem, E_ineg, E_ladd, E_lsub, E_land, E_lor, E_lcmp, E_lshl, E_lshr, E_lushr, E_i2l, E_l2i, E_i2c, E_dupI, E_popI, E_dup_x1II, E_dup2II, E_dup_x1IR, E_dup2IR, E_dup_x1IN, E_dup2IN, E_dupR, E_popR, E_dup_x1RI, E_dup2RI, E_dup_x1RR, E_dup2RR, E_dup_x1RN, E_dup2RN, E_dupN, E_popN, E_dup_x1NI, E_dup2NI, E_dup_x1NR, E_dup2NR, E_dup_x1NN, E_dup2NN, E_goto, E_if_eq, E_if_ne, E_if_lt, E_if_ge, E_if_gt, E_if_le, E_ic_eq, E_ic_ne, E_ic_lt, E_ic_ge, E_ic_gt, E_ic_le, E_ifnull, E_ifnullN, E_ifnonnull, E_ifnonnullN, E_get, E_gf, E_xv, E_n0, E_ns, E_putI, E_putR, E_putN, E_pf, E_st0, E_sts, E_iaload, E_caload, E_laload, E_aaload, E_alen, E_iast, E_cast, E_last, E_xI, E_xJ, E_xQ, E_xN, E_lk, E_lkn, E_s1, E_s1h, E_s1I, E_s1R, E_s1N, E_s1L, E_s2, E_s2h, E_s2L, E_s2I, E_s2R, E_s2N, E_a1, E_a0, E_aI, E_aR, E_aN, E_aL, Option.isSome_some, eq_self, true_and, and_true, true_or, or_true, ne_eq, not_false_eq_true, not_true_eq_false, reduceIte, reduceCtorEq, Nat.reduceAdd, Nat.reduceBEq, Nat.reduceEqDiff, Option.toList_some, Option.toList_none, List.cons_append, List.nil_append, h14, h9, kCk, kDr]
    refine sp_callV hz (c_Command_start l G) (ci := 4) (As := [.int (nI 1)]) (rest := [.ref (A 0), .ref (A 10)]) rfl w_Clerk_103 (by decide) hc1.1 rfl (Nat.le_of_ble_eq_true rfl) d_Clerk_beginDraft_26 ⟨_, _, _, _, _, _, ws, _, _, 1, rfl, hc1, by decide, ?_⟩ rfl
    refine sp_run hz _ _ e_Clerk_beginDraft_29 _ _ _ ?_
    simp only [k_Clerk_beginDraft_29, E_nil, E_iconst, E_bipush, E_sipush, E_ldc, E_ldc2, E_lconst, E_null, E_iload_n, E_lload_n, E_aload_n, E_istore_n, E_lstore_n, E_astore_n, E_astoreN_n, E_iload, E_lload, E_aload, E_istore, E_lstore, E_astore, E_astoreN, E_ldi, E_ldl, E_lda, E_ldN, E_iinc, E_iadd, E_isub, E_imul, E_iand, E_ior, E_ixor, E_ishl, E_ishr, E_idiv, E_irem, E_ineg, E_ladd, E_lsub, E_land, E_lor, E_lcmp, E_lshl, E_lshr, E_lushr, E_i2l, E_l2i, E_i2c, E_dupI, E_popI, E_dup_x1II, E_dup2II, E_dup_x1IR, E_dup2IR, E_dup_x1IN, E_dup2IN, E_dupR, E_popR, E_dup_x1RI, E_dup2RI, E_dup_x1RR, E_dup2RR, E_dup_x1RN, E_dup2RN, E_dupN, E_popN, E_dup_x1NI, E_dup2NI, E_dup_x1NR, E_dup2NR, E_dup_x1NN, E_dup2NN, E_goto, E_if_eq, E_if_ne, E_if_lt, E_if_ge, E_if_gt, E_if_le, E_ic_eq, E_ic_ne, E_ic_lt, E_ic_ge, E_ic_gt, E_ic_le, E_ifnull, E_ifnullN, E_ifnonnull, E_ifnonnullN, E_get, E_gf, E_xv, E_n0, E_ns, E_putI, E_putR, E_putN, E_pf, E_st0, E_sts, E_iaload, E_caload, E_laload, E_aaload, E_alen, E_iast, E_cast, E_last, E_xI, E_xJ, E_xQ, E_xN, E_lk, E_lkn, E_s1, E_s1h, E_s1I, E_s1R, E_s1N, E_s1L, E_s2, E_s2h, E_s2L, E_s2I, E_s2R, E_s2N, E_a1, E_a0, E_aI, E_aR, E_aN, E_aL, Option.isSome_some, eq_self, true_and, and_true, true_or, or_true, ne_eq, not_false_eq_true, not_true_eq_false, reduceIte, reduceCtorEq, Nat.reduceAdd, Nat.reduceBEq, Nat.reduceEqDiff, Option.toList_some, Option.toList_none, List.cons_append, List.nil_append, h14, kCk]
    refine sp_callV hz (c_Command_length l G) (ci := 4) (As := [.int (nI 1)]) (rest := [.int (nI (wS ws 1)), .ref (A 0), .ref (A 10)]) rfl w_Clerk_107 (by decide) hc1.1 rfl (Nat.le_of_ble_eq_true rfl) d_Clerk_beginDraft_34 ⟨_, _, _, _, _, _, ws, _, _, 1, rfl, hc1, by decide, ?_⟩ rfl
    have t10 := hk1.T x10
    have t0 := hk1.T x0
    rw [up_s] at t10
    rw [up_n _ _ (by decide)] at t0
    refine sp_callV hz (c_Text_addPart l G) (ci := 0) (As := [.ref (A 0), .int (nI (wS ws 1)), .int (nI (wL ws 1))]) (rest := []) rfl w_Clerk_216 (by decide) t10.1 rfl (Nat.le_of_ble_eq_true rfl) d_Clerk_beginDraft_37 ⟨A 10, _, _, [], A 0, _, _, X 0, wS ws 1, wL ws 1, rfl, t10, t0, hk.nA (by decide) (by decide) (by decide) (by decide) (by decide), hk.nA (i := 1) (j := 11) (by decide) (by decide) (by decide) (by decide) (by decide), by omega, by omega, fun M2 t2 o2 => ?_⟩ rfl
    rw [pu_app_fits _ _ _ (by rw [pu_seg_len]; show _ ≤ 8; rw [List.length_nil]; omega), List.nil_append] at t2
    obtain ⟨hk2, hf2⟩ := hk1.text x10 t2 o2
    rw [up_up] at hk2
    have h14 := hk2.2.1
    have h9 := hk2.2.2.1
    refine sp_run hz _ _ e_Clerk_beginDraft_40 _ _ _ ?_
    simp only [k_Clerk_beginDraft_40, E_nil, E_iconst, E_bipush, E_sipush, E_ldc, E_ldc2, E_lconst, E_null, E_iload_n, E_lload_n, E_aload_n, E_istore_n, E_lstore_n, E_astore_n, E_astoreN_n, E_iload, E_lload, E_aload, E_istore, E_lstore, E_astore, E_astoreN, E_ldi, E_ldl, E_lda, E_ldN, E_iinc, E_iadd, E_isub, E_imul, E_iand, E_ior, E_ixor, E_ishl, E_ishr, E_idiv, E_irem, E_ineg, E_ladd, E_lsub, E_land, E_lor, E_lcmp, E_lshl, E_lshr, E_lushr, E_i2l, E_l2i, E_i2c, E_dupI, E_popI, E_dup_x1II, E_dup2II, E_dup_x1IR, E_dup2IR, E_dup_x1IN, E_dup2IN, E_dupR, E_popR, E_dup_x1RI, E_dup2RI, E_dup_x1RR, E_dup2RR, E_dup_x1RN, E_dup2RN, E_dupN, E_popN, E_dup_x1NI, E_dup2NI, E_dup_x1NR, E_dup2NR, E_dup_x1NN, E_dup2NN, E_goto, E_if_eq, E_if_ne, E_if_lt, E_if_ge, E_if_gt, E_if_le, E_ic_eq, E_ic_ne, E_ic_lt, E_ic_ge, E_ic_gt, E_ic_le, E_ifnull, E_ifnullN, E_ifnonnull, E_ifnonnullN, E_get, E_gf, E_xv, E_n0, E_ns, E_putI, E_putR, E_putN, E_pf, E_st0, E_sts, E_iaload, E_caload, E_laload, E_aaload, E_alen, E_iast, E_cast, E_last, E_xI, E_xJ, E_xQ, E_xN, E_lk, E_lkn, E_s1, E_s1h, E_s1I, E_s1R, E_s1N, E_s1L, E_s2, E_s2h, E_s2L, E_s2I, E_s2R, E_s2N, E_a1, E_a0, E_aI, E_aR, E_aN, E_aL, Option.isSome_some, eq_self, true_and, and_true, true_or, or_true, ne_eq, not_false_eq_true, not_true_eq_false, reduceIte, reduceCtorEq, Nat.reduceAdd, Nat.reduceBEq, Nat.reduceEqDiff, Option.toList_some, Option.toList_none, List.cons_append, List.nil_append, h14, h9, kCk, kDr]
    refine sp_callV hz (c_Text_clear l G) (ci := 0) (As := []) (rest := []) rfl w_Clerk_100 (by decide) (hk2.T x12).1 rfl (Nat.le_of_ble_eq_true rfl) d_Clerk_beginDraft_47 ⟨A 12, _, _, _, rfl, hk2.T x12, fun M3 t3 o3 => ?_⟩ rfl
    obtain ⟨hk3, hf3⟩ := hk2.text x12 t3 o3
    have h14 := hk3.2.1
    have h9 := hk3.2.2.1
    have n149 : A 14 ≠ A 9 := fun e => by
      rw [e, h9] at h14
      cases h14
    refine sp_run hz _ _ e_Clerk_beginDraft_50 _ _ _ ?_
    simp only [k_Clerk_beginDraft_50, E_nil, E_iconst, E_bipush, E_sipush, E_ldc, E_ldc2, E_lconst, E_null, E_iload_n, E_lload_n, E_aload_n, E_istore_n, E_lstore_n, E_astore_n, E_astoreN_n, E_iload, E_lload, E_aload, E_istore, E_lstore, E_astore, E_astoreN, E_ldi, E_ldl, E_lda, E_ldN, E_iinc, E_iadd, E_isub, E_imul, E_iand, E_ior, E_ixor, E_ishl, E_ishr, E_idiv, E_irem, E_ineg, E_ladd, E_lsub, E_land, E_lor, E_lcmp, E_lshl, E_lshr, E_lushr, E_i2l, E_l2i, E_i2c, E_dupI, E_popI, E_dup_x1II, E_dup2II, E_dup_x1IR, E_dup2IR, E_dup_x1IN, E_dup2IN, E_dupR, E_popR, E_dup_x1RI, E_dup2RI, E_dup_x1RR, E_dup2RR, E_dup_x1RN, E_dup2RN, E_dupN, E_popN, E_dup_x1NI, E_dup2NI, E_dup_x1NR, E_dup2NR, E_dup_x1NN, E_dup2NN, E_goto, E_if_eq, E_if_ne, E_if_lt, E_if_ge, E_if_gt, E_if_le, E_ic_eq, E_ic_ne, E_ic_lt, E_ic_ge, E_ic_gt, E_ic_le, E_ifnull, E_ifnullN, E_ifnonnull, E_ifnonnullN, E_get, E_gf, E_xv, E_n0, E_ns, E_putI, E_putR, E_putN, E_pf, E_st0, E_sts, E_iaload, E_caload, E_laload, E_aaload, E_alen, E_iast, E_cast, E_last, E_xI, E_xJ, E_xQ, E_xN, E_lk, E_lkn, E_s1, E_s1h, E_s1I, E_s1R, E_s1N, E_s1L, E_s2, E_s2h, E_s2L, E_s2I, E_s2R, E_s2N, E_a1, E_a0, E_aI, E_aR, E_aN, E_aL, Option.isSome_some, eq_self, true_and, and_true, true_or, or_true, ne_eq, not_false_eq_true, not_true_eq_false, reduceIte, reduceCtorEq, Nat.reduceAdd, Nat.reduceBEq, Nat.reduceEqDiff, Option.toList_some, Option.toList_none, List.cons_append, List.nil_append, h14, h9, kCk, kDr, sp_u_n _ _ n149, sp_u_s]
    obtain ⟨hk4, hf4⟩ := hk3.draft fl gn
    refine sp_vret hz d_Clerk_beginDraft_66 (Nat.le_refl _) (Nat.le_refl _) ?_
    have e : sp_u (sp_u M3 (A 9) (.inr (5, [.ref (A 10), .ref (A 12), .int (nI fl), .int (nI (N 3))]))) (A 9) (.inr (5, [.ref (A 10), .ref (A 12), .int (nI fl), .int (nI gn)])) = sp_u M3 (A 9) (kDr A (up (up N 2 fl) 3 gn)) := by
      funext q
      by_cases hq : q = A 9
      · rw [hq, sp_u_s, sp_u_s]
        rfl
      · rw [sp_u_n _ _ hq, sp_u_n _ _ hq, sp_u_n _ _ hq]
    rw [e]
    exact hp _ hk4 (((hf1.trans hf2).trans hf3).trans hf4)
