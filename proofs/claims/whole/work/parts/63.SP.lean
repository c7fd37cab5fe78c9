/-! The pantry's own calls that return: line, answer, items, pages, numbers, hits, misses. -/
abbrev AS : Type := List Nat × List Nat × List It × (Nat → Nat) × NN × Nat × Nat
abbrev sL (S : AS) : List Nat := S.1
abbrev sA (S : AS) : List Nat := S.2.1
abbrev sI (S : AS) : List It := S.2.2.1
abbrev sP (S : AS) : Nat → Nat := S.2.2.2.1
abbrev sN (S : AS) : NN := S.2.2.2.2.1
abbrev sH (S : AS) : Nat := S.2.2.2.2.2.1
abbrev sM (S : AS) : Nat := S.2.2.2.2.2.2
def cS (G : sp_G) (M : sp_M) (A W : Nat → Nat) (S : AS) : Prop := ∃ sh os fr Q X N ws, kS G M A sh W (sP S) os fr Q (sN S) X N ws ∧ absR os Q (sI S) ∧ X 0 = sL S ∧ X 2 = sA S ∧ N 0 = sH S ∧ N 1 = sM S
def byt (x i : Nat) : Nat := x / 2 ^ (8 * i) % 256
def wby (x n : Nat) : List Nat := ((List.range n).map (byt x)).filter (fun b => decide (b ≠ 0))
theorem wby_s (x n : Nat) : wby x (n + 1) = if byt x n = 0 then wby x n else wby x n ++ [byt x n] := by
  unfold wby
  rw [List.range_succ, List.map_append, List.filter_append, List.map_cons, List.map_nil]
  by_cases h : byt x n = 0
  · rw [if_pos h, List.filter_cons_of_neg (by rw [decide_eq_true_eq]; exact fun q => q h), List.filter_nil, List.append_nil]
  · rw [if_neg h, List.filter_cons_of_pos (by rw [decide_eq_true_eq]; exact h), List.filter_nil]
theorem byt_lt (x i : Nat) : byt x i < 256 := Nat.mod_lt _ (by decide)
theorem wby_mem {x n i : Nat} (h : i < n) (h0 : byt x i ≠ 0) : byt x i ∈ wby x n := List.mem_filter.mpr ⟨List.mem_map.mpr ⟨i, List.mem_range.mpr h, rfl⟩, decide_eq_true h0⟩
theorem wby_all {x n : Nat} {p : Nat → Bool} : (wby x n).all p = true ↔ ∀ i, i < n → byt x i ≠ 0 → p (byt x i) = true := by
  rw [List.all_eq_true]
  refine ⟨fun h i hi h0 => h _ (wby_mem hi h0), fun h b hb => ?_⟩
  obtain ⟨h1, h2⟩ := List.mem_filter.mp hb
  obtain ⟨i, hi, rfl⟩ := List.mem_map.mp h1
  exact h i (List.mem_range.mp hi) (of_decide_eq_true h2)
theorem wby_len (x : Nat) : ∀ n, (wby x n).length ≤ n
  | 0 => Nat.le_refl _
  | n + 1 => by
    have := wby_len x n
    rw [wby_s]
    split
    · omega
    · rw [List.length_append, List.length_cons, List.length_nil]
      omega
def wOk (x : Nat) (s : List Nat) : Bool := (wby x 8).all pu_ischar && decide (s.length + (wby x 8).length ≤ 140)
theorem b_and {x i : Nat} (hx : x < 2 ^ 64) (hi : i < 8) : ((lN (x / 2 ^ (8 * i))).toInt32 &&& 255) = nI (byt x i) := by
  rw [lN_i]
  have e : nI (x / 2 ^ (8 * i)) = nI (x / 2 ^ (8 * i) % 2 ^ 32) := Int32.toBitVec_inj.mp (by
    show BitVec.ofNat 32 _ = BitVec.ofNat 32 _
    apply BitVec.eq_of_toNat_eq
    rw [BitVec.toNat_ofNat, BitVec.toNat_ofNat, Nat.mod_mod])
  rw [e, pk_andN (Nat.mod_lt _ (by decide)) 8 (by decide), Nat.mod_mod_of_dvd _ (by decide)]
  rfl
def T_SP_byteOf : sp_T := fun av M Post => ∃ x i, av = [.long (lN x), .int (nI i)] ∧ x < 2 ^ 64 ∧ i < 8 ∧ Post (some (.int (nI (byt x i)))) M
set_option maxHeartbeats 4000000 in
set_option maxRecDepth 100000 in
theorem c_SP_byteOf (l : Launch) (G : sp_G) : sp_Met l G y_SP_byteOf b_SP_byteOf 3 (some .int) {} T_SP_byteOf := by
  refine sp_entry (by decide) (fun av M Post h => ?_) (fun z M av Post hz _ hT => ?_)
  · obtain ⟨x, i, rfl, -⟩ := h
    exact Nat.le_of_ble_eq_true rfl
  · obtain ⟨x, i, rfl, hx, hi, hp⟩ := hT
    have e8 : (8 : Int32) * nI i = nI (8 * i) := pk_mul 8 i
    refine sp_run hz _ _ e_SP_byteOf_0 _ _ _ ?_
    simp only [k_SP_byteOf_0, E_nil, E_iconst, E_bipush, E_sipush, E_ldc, E_ldc2, E_lconst, E_null, E_iload_n, E_lload_n, E_aload_n, E_istore_n, E_lstore_n, E_astore_n, E_astoreN_n, E_iload, E_lload, E_aload, E_istore, E_lstore, E_astore, E_astoreN, E_ldi, E_ldl, E_lda, E_ldN, E_iinc, E_iadd, E_isub, E_imul, E_iand, E_ior, E_ixor, E_ishl, E_ishr, E_idiv, E_irem, E_ineg, E_ladd, E_lsub, E_land, E_lor, E_lcmp, E_lshl, E_lshr, E_lushr, E_i2l, E_l2i, E_i2c, E_dupI, E_popI, E_dup_x1II, E_dup2II, E_dup_x1IR, E_dup2IR, E_dup_x1IN, E_dup2IN, E_dupR, E_popR, E_dup_x1RI, E_dup2RI, E_dup_x1RR, E_dup2RR, E_dup_x1RN, E_dup2RN, E_dupN, E_popN, E_dup_x1NI, E_dup2NI, E_dup_x1NR, E_dup2NR, E_dup_x1NN, E_dup2NN, E_goto, E_if_eq, E_if_ne, E_if_lt, E_if_ge, E_if_gt, E_if_le, E_ic_eq, E_ic_ne, E_ic_lt, E_ic_ge, E_ic_gt, E_ic_le, E_ifnull, E_ifnullN, E_ifnonnull, E_ifnonnullN, E_get, E_gf, E_xv, E_n0, E_ns, E_putI, E_putR, E_putN, E_pf, E_st0, E_sts, E_iaload, E_caload, E_laload, E_aaload, E_alen, E_iast, E_cast, E_last, E_xI, E_xJ, E_xQ, E_xN, E_lk, E_lkn, E_s1, E_s1h, E_s1I, E_s1R, E_s1N, E_s1L, E_s2, E_s2h, E_s2L, E_s2I, E_s2R, E_s2N, E_a1, E_a0, E_aI, E_aR, E_aN, E_aL, Option.isSome_some, eq_self, true_and, and_true, true_or, or_true, ne_eq, not_false_eq_true, not_true_eq_false, reduceIte, reduceCtorEq, Nat.reduceAdd, Nat.reduceBEq, Nat.reduceEqDiff, Option.toList_some, Option.toList_none, List.cons_append, List.nil_append, e8, wb_shr hx (show 8 * i < 64 by omega), b_and hx hi]
    exact sp_iret hz d_SP_byteOf_11 (Nat.le_refl _) (Nat.le_refl _) hp
theorem cS.wipe {G : sp_G} {M M' : sp_M} {A W : Nat → Nat} {S : AS} {s : List Nat} (h : cS G M A W S) (t1 : tx G M' (A 0) (A (0 + 1)) (xcap 0) s) (o1 : off2 M M' (A 0) (A (0 + 1))) : cS G M' A W (s, S.2) ∧ ffr M M' W W := by
  obtain ⟨sh, os, fr, Q, X, N, ws, hk, ha, e0, e2, n0, n1⟩ := h
  obtain ⟨hk1, hf1⟩ := hk.text x0 t1 o1
  exact ⟨⟨sh, os, fr, Q, _, N, ws, hk1, ha, up_s _ _ _, by rw [up_n _ _ (by decide)]; exact e2, n0, n1⟩, hf1⟩
theorem cS.line {G : sp_G} {M : sp_M} {A W : Nat → Nat} {S : AS} (h : cS G M A W S) : tx G M (A 0) (A (0 + 1)) (xcap 0) (sL S) := by
  obtain ⟨sh, os, fr, Q, X, N, ws, hk, ha, e0, e2, n0, n1⟩ := h
  rw [← e0]
  exact hk.T x0
theorem cS.ans {G : sp_G} {M : sp_M} {A W : Nat → Nat} {S : AS} (h : cS G M A W S) : tx G M (A 2) (A (2 + 1)) (xcap 2) (sA S) := by
  obtain ⟨sh, os, fr, Q, X, N, ws, hk, ha, e0, e2, n0, n1⟩ := h
  rw [← e2]
  exact hk.T x2
theorem cS.sp {G : sp_G} {M : sp_M} {A W : Nat → Nat} {S : AS} (h : cS G M A W S) : M (A 15) = some (kSP A) := by
  obtain ⟨sh, os, fr, Q, X, N, ws, hk, -⟩ := h
  exact hk.2.2.2.1
def T_SP_wipe (G : sp_G) : sp_T := fun av M Post => ∃ A W S, av = [.ref (A 15)] ∧ cS G M A W S ∧ ∀ M', cS G M' A W ([], S.2) → ffr M M' W W → Post (some (.int (nI (sL S).length))) M'
set_option maxHeartbeats 4000000 in
set_option maxRecDepth 100000 in
theorem c_SP_wipe (l : Launch) (G : sp_G) : sp_Met l G y_SP_wipe b_SP_wipe 2 (some .int) { frames := 1, locals := 20 } (T_SP_wipe G) := by
  refine sp_entry (by decide) (fun av M Post h => ?_) (fun z M av Post hz _ hT => ?_)
  · obtain ⟨A, W, S, rfl, -⟩ := h
    exact Nat.le_of_ble_eq_true rfl
  · obtain ⟨A, W, S, rfl, hc, hp⟩ := hT
    have h15 := hc.sp
    refine sp_run hz _ _ e_SP_wipe_0 _ _ _ ?_
    simp only [k_SP_wipe_0, E_nil, E_iconst, E_bipush, E_sipush, E_ldc, E_ldc2, E_lconst, E_null, E_iload_n, E_lload_n, E_aload_n, E_istore_n, E_lstore_n, E_astore_n, E_astoreN_n, E_iload, E_lload, E_aload, E_istore, E_lstore, E_astore, E_astoreN, E_ldi, E_ldl, E_lda, E_ldN, E_iinc, E_iadd, E_isub, E_imul, E_iand, E_ior, E_ixor, E_ishl, E_ishr, E_idiv, E_irem, E_ineg, E_ladd, E_lsub, E_land, E_lor, E_lcmp, E_lshl, E_lshr, E_lushr, E_i2l, E_l2i, E_i2c, E_dupI, E_popI, E_dup_x1II, E_dup2II, E_dup_x1IR, E_dup2IR, E_dup_x1IN, E_dup2IN, E_dupR, E_popR, E_dup_x1RI, E_dup2RI, E_dup_x1RR, E_dup2RR, E_dup_x1RN, E_dup2RN, E_dupN, E_popN, E_dup_x1NI, E_dup2NI, E_dup_x1NR, E_dup2NR, E_dup_x1NN, E_dup2NN, E_goto, E_if_eq, E_if_ne, E_if_lt, E_if_ge, E_if_gt, E_if_le, E_ic_eq, E_ic_ne, E_ic_lt, E_ic_ge, E_ic_gt, E_ic_le, E_ifnull, E_ifnullN, E_ifnonnull, E_ifnonnullN, E_get, E_gf, E_xv, E_n0, E_ns, E_putI, E_putR, E_putN, E_pf, E_st0, E_sts, E_iaload, E_caload, E_laload, E_aaload, E_alen, E_iast, E_cast, E_last, E_xI, E_xJ, E_xQ, E_xN, E_lk, E_lkn, E_s1, E_s1h, E_s1I, E_s1R, E_s1N, E_s1L, E_s2, E_s2h, E_s2L, E_s2I, E_s2R, E_s2N, E_a1, E_a0, E_aI, E_aR, E_aN, E_aL, Option.isSome_some, eq_self, true_and, and_true, true_or, or_true, ne_eq, not_false_eq_true, not_true_eq_false, reduceIte, reduceCtorEq, Nat.reduceAdd, Nat.reduceBEq, Nat.reduceEqDiff, Option.toList_some, Option.toList_none, List.cons_append, List.nil_append, h15, kSP]
    refine sp_callV hz (c_Text_length l G) (ci := 0) (As := []) (rest := []) rfl w_SP_45 (by decide) hc.line.1 rfl (Nat.le_of_ble_eq_true rfl) d_SP_wipe_4 ⟨A 0, _, _, _, rfl, hc.line, ?_⟩ rfl
    refine sp_run hz _ _ e_SP_wipe_7 _ _ _ ?_
    simp only [k_SP_wipe_7, E_nil, E_iconst, E_bipush, E_sipush, E_ldc, E_ldc2, E_lconst, E_null, E_iload_n, E_lload_n, E_aload_n, E_istore_n, E_lstore_n, E_astore_n, E_astoreN_n, E_iload, E_lload, E_aload, E_istore, E_lstore, E_astore, E_astoreN, E_ldi, E_ldl, E_lda, E_ldN, E_iinc, E_iadd, E_isub, E_imul, E_iand, E_ior, E_ixor, E_ishl, E_ishr, E_idiv, E_irem, E_ineg, E_ladd, E_lsub, E_land, E_lor, E_lcmp, E_lshl, E_lshr, E_lushr, E_i2l, E_l2i, E_i2c, E_dupI, E_popI, E_dup_x1II, E_dup2II, E_dup_x1IR, E_dup2IR, E_dup_x1IN, E_dup2IN, E_dupR, E_popR, E_dup_x1RI, E_dup2RI, E_dup_x1RR, E_dup2RR, E_dup_x1RN, E_dup2RN, E_dupN, E_popN, E_dup_x1NI, E_dup2NI, E_dup_x1NR, E_dup2NR, E_dup_x1NN, E_dup2NN, E_goto, E_if_eq, E_if_ne, E_if_lt, E_if_ge, E_if_gt, E_if_le, E_ic_eq, E_ic_ne, E_ic_lt, E_ic_ge, E_ic_gt, E_ic_le, E_ifnull, E_ifnullN, E_ifnonnull, E_ifnonnullN, E_get, E_gf, E_xv, E_n0, E_ns, E_putI, E_putR, E_putN, E_pf, E_st0, E_sts, E_iaload, E_caload, E_laload, E_aaload, E_alen, E_iast, E_cast, E_last, E_xI, E_xJ, E_xQ, E_xN, E_lk, E_lkn, E_s1, E_s1h, E_s1I, E_s1R, E_s1N, E_s1L, E_s2, E_s2h, E_s2L, E_s2I, E_s2R, E_s2N, E_a1, E_a0, E_aI, E_aR, E_aN, E_aL, Option.isSome_some, eq_self, true_and, and_true, true_or, or_true, ne_eq, not_false_eq_true, not_true_eq_false, reduceIte, reduceCtorEq, Nat.reduceAdd, Nat.reduceBEq, Nat.reduceEqDiff, Option.toList_some, Option.toList_none, List.cons_append, List.nil_append, h15, kSP]
    refine sp_callV hz (c_Text_clear l G) (ci := 0) (As := []) (rest := []) rfl w_SP_53 (by decide) hc.line.1 rfl (Nat.le_of_ble_eq_true rfl) d_SP_wipe_12 ⟨A 0, _, _, _, rfl, hc.line, fun M1 t1 o1 => ?_⟩ rfl
    obtain ⟨hc1, hf1⟩ := hc.wipe t1 o1
    refine sp_run hz _ _ e_SP_wipe_15 _ _ _ ?_
    simp only [k_SP_wipe_15, E_nil, E_iconst, E_bipush, E_sipush, E_ldc, E_ldc2, E_lconst, E_null, E_iload_n, E_lload_n, E_aload_n, E_istore_n, E_lstore_n, E_astore_n, E_astoreN_n, E_iload, E_lload, E_aload, E_istore, E_lstore, E_astore, E_astoreN, E_ldi, E_ldl, E_lda, E_ldN, E_iinc, E_iadd, E_isub, E_imul, E_iand, E_ior, E_ixor, E_ishl, E_ishr, E_idiv, E_irem, E_ineg, E_ladd, E_lsub, E_land, E_lor, E_lcmp, E_lshl, E_lshr, E_lushr, E_i2l, E_l2i, E_i2c, E_dupI, E_popI, E_dup_x1II, E_dup2II, E_dup_x1IR, E_dup2IR, E_dup_x1IN, E_dup2IN, E_dupR, E_popR, E_dup_x1RI, E_dup2RI, E_dup_x1RR, E_dup2RR, E_dup_x1RN, E_dup2RN, E_dupN, E_popN, E_dup_x1NI, E_dup2NI, E_dup_x1NR, E_dup2NR, E_dup_x1NN, E_dup2NN, E_goto, E_if_eq, E_if_ne, E_if_lt, E_if_ge, E_if_gt, E_if_le, E_ic_eq, E_ic_ne, E_ic_lt, E_ic_ge, E_ic_gt, E_ic_le, E_ifnull, E_ifnullN, E_ifnonnull, E_ifnonnullN, E_get, E_gf, E_xv, E_n0, E_ns, E_putI, E_putR, E_putN, E_pf, E_st0, E_sts, E_iaload, E_caload, E_laload, E_aaload, E_alen, E_iast, E_cast, E_last, E_xI, E_xJ, E_xQ, E_xN, E_lk, E_lkn, E_s1, E_s1h, E_s1I, E_s1R, E_s1N, E_s1L, E_s2, E_s2h, E_s2L, E_s2I, E_s2R, E_s2N, E_a1, E_a0, E_aI, E_aR, E_aN, E_aL, Option.isSome_some, eq_self, true_and, and_true, true_or, or_true, ne_eq, not_false_eq_true, not_true_eq_false, reduceIte, reduceCtorEq, Nat.reduceAdd, Nat.reduceBEq, Nat.reduceEqDiff, Option.toList_some, Option.toList_none, List.cons_append, List.nil_append]
    exact sp_iret hz d_SP_wipe_16 (Nat.le_refl _) (Nat.le_refl _) (hp M1 hc1 hf1)
def T_SP_write (G : sp_G) : sp_T := fun av M Post => ∃ A W S x, av = [.ref (A 15), .long (lN x)] ∧ x < 2 ^ 64 ∧ cS G M A W S ∧ (wOk x (sL S) = false → Post (some (.int 0)) M) ∧ (wOk x (sL S) = true → ∀ M', cS G M' A W (sL S ++ wby x 8, S.2) → ffr M M' W W → Post (some (.int 1)) M')
set_option maxHeartbeats 4000000 in
set_option maxRecDepth 100000 in
theorem c_SP_write (l : Launch) (G : sp_G) : sp_Met l G y_SP_write b_SP_write 6 (some .boolean) { frames := 1, locals := 22 } (T_SP_write G) := by
  refine sp_entry (by decide) (fun av M Post h => ?_) (fun z M av Post hz _ hT => ?_)
  · obtain ⟨A, W, S, x, rfl, -⟩ := h
    exact Nat.le_of_ble_eq_true rfl
  · obtain ⟨A, W, S, x, rfl, hx, hc, p0, p1⟩ := hT
    have h15 := hc.sp
    have hl140 : (sL S).length ≤ 140 := hc.line.2.1
    have hw8 := wby_len x 8
    -- the second loop
    have loop2 : wOk x (sL S) = true → ∀ k i M1 (L : sp_L), (∀ q ∈ [(0, .ref (A 15)), (1, .long (lN x)), (4, .int (nI i))], q ∈ L) → 8 - i = k → i ≤ 8 → cS G M1 A W (sL S ++ wby x i, S.2) → ffr M M1 W W → sp_W z G M (sp_Q z G M Post 0 0) 6 0 0 69 L [] M1 := by
      intro hok k
      simp only [wOk, Bool.and_eq_true, decide_eq_true_eq] at hok
      induction k with
      | zero =>
        intro i M1 L hL hk hi hc1 hf1
        refine sp_Lm _ hL ?_
        have : i = 8 := by omega
        subst this
        refine sp_run hz _ _ e_SP_write_69 _ _ _ ?_
        simp only [k_SP_write_69, E_nil, E_iconst, E_bipush, E_sipush, E_ldc, E_ldc2, E_lconst, E_null, E_iload_n, E_lload_n, E_aload_n, E_istore_n, E_lstore_n, E_astore_n, E_astoreN_n, E_iload, E_lload, E_aload, E_istore, E_lstore, E_astore, E_astoreN, E_ldi, E_ldl, E_lda, E_ldN, E_iinc, E_iadd, E_isub, E_imul, E_iand, E_ior, E_ixor, E_ishl, E_ishr, E_idiv, E_irem, E_ineg, E_ladd, E_lsub, E_land, E_lor, E_lcmp, E_lshl, E_lshr, E_lushr, E_i2l, E_l2i, E_i2c, E_dupI, E_popI, E_dup_x1II, E_dup2II, E_dup_x1IR, E_dup2IR, E_dup_x1IN, E_dup2IN, E_dupR, E_popR, E_dup_x1RI, E_dup2RI, E_dup_x1RR, E_dup2RR, E_dup_x1RN, E_dup2RN, E_dupN, E_popN, E_dup_x1NI, E_dup2NI, E_dup_x1NR, E_dup2NR, E_dup_x1NN, E_dup2NN, E_goto, E_if_eq, E_if_ne, E_if_lt, E_if_ge, E_if_gt, E_if_le, E_ic_eq, E_ic_ne, E_ic_lt, E_ic_ge, E_ic_gt, E_ic_le, E_ifnull, E_ifnullN, E_ifnonnull, E_ifnonnullN, E_get, E_gf, E_xv, E_n0, E_ns, E_putI, E_putR, E_putN, E_pf, E_st0, E_sts, E_iaload, E_caload, E_laload, E_aaload, E_alen, E_iast, E_cast, E_last, E_xI, E_xJ, E_xQ, E_xN, E_lk, E_lkn, E_s1, E_s1h, E_s1I, E_s1R, E_s1N, E_s1L, E_s2, E_s2h, E_s2L, E_s2I, E_s2R, E_s2N, E_a1, E_a0, E_aI, E_aR, E_aN, E_aL, Option.isSome_some, eq_self, true_and, and_true, true_or, or_true, ne_eq, not_false_eq_true, not_true_eq_false, reduceIte, reduceCtorEq, Nat.reduceAdd, Nat.reduceBEq, Nat.reduceEqDiff, Option.toList_some, Option.toList_none, List.cons_append, List.nil_append]
        refine ⟨fun _ => ?_, fun h => absurd (Int32.le_refl _) h⟩
        refine sp_run hz _ _ e_SP_write_105 _ _ _ ?_
        simp only [k_SP_write_105, E_nil, E_iconst, E_bipush, E_sipush, E_ldc, E_ldc2, E_lconst, E_null, E_iload_n, E_lload_n, E_aload_n, E_istore_n, E_lstore_n, E_astore_n, E_astoreN_n, E_iload, E_lload, E_aload, E_istore, E_lstore, E_astore, E_astoreN, E_ldi, E_ldl, E_lda, E_ldN, E_iinc, E_iadd, E_isub, E_imul, E_iand, E_ior, E_ixor, E_ishl, E_ishr, E_idiv, E_irem, E_ineg, E_ladd, E_lsub, E_land, E_lor, E_lcmp, E_lshl, E_lshr, E_lushr, E_i2l, E_l2i, E_i2c, E_dupI, E_popI, E_dup_x1II, E_dup2II, E_dup_x1IR, E_dup2IR, E_dup_x1IN, E_dup2IN, E_dupR, E_popR, E_dup_x1RI, E_dup2RI, E_dup_x1RR, E_dup2RR, E_dup_x1RN, E_dup2RN, E_dupN, E_popN, E_dup_x1NI, E_dup2NI, E_dup_x1NR, E_dup2NR, E_dup_x1NN, E_dup2NN, E_goto, E_if_eq, E_if_ne, E_if_lt, E_if_ge, E_if_gt, E_if_le, E_ic_eq, E_ic_ne, E_ic_lt, E_ic_ge, E_ic_gt, E_ic_le, E_ifnull, E_ifnullN, E_ifnonnull, E_ifnonnullN, E_get, E_gf, E_xv, E_n0, E_ns, E_putI, E_putR, E_putN, E_pf, E_st0, E_sts, E_iaload, E_caload, E_laload, E_aaload, E_alen, E_iast, E_cast, E_last, E_xI, E_xJ, E_xQ, E_xN, E_lk, E_lkn, E_s1, E_s1h, E_s1I, E_s1R, E_s1N, E_s1L, E_s2, E_s2h, E_s2L, E_s2I, E_s2R, E_s2N, E_a1, E_a0, E_aI, E_aR, E_aN, E_aL, Option.isSome_some, eq_self, true_and, and_true, true_or, or_true, ne_eq, not_false_eq_true, not_true_eq_false, reduceIte, reduceCtorEq, Nat.reduceAdd, Nat.reduceBEq, Nat.reduceEqDiff, Option.toList_some, Option.toList_none, List.cons_append, List.nil_append]
        exact sp_zret hz d_SP_write_106 rfl (Nat.le_refl _) (Nat.le_refl _) (p1 (by simp only [wOk, Bool.and_eq_true, decide_eq_true_eq]; exact hok) M1 hc1 hf1)
      | succ k ih =>
        intro i M1 L hL hk hi hc1 hf1
        refine sp_Lm _ hL ?_
        have hi8 : i < 8 := by omega
        have hb := byt_lt x i
        have h15 := hc1.sp
        have hwl : (wby x (i + 1)).length ≤ (wby x 8).length := by
          have : ∀ n m, n ≤ m → (wby x n).length ≤ (wby x m).length := fun n m h => by
            induction m with
            | zero => rw [Nat.le_zero.mp h]; exact Nat.le_refl _
            | succ m ihm =>
              by_cases e : n = m + 1
              · rw [e]; exact Nat.le_refl _
              · have := ihm (by omega)
                rw [wby_s]
                split
                · exact this
                · rw [List.length_append]
                  omega
          exact this _ _ (by omega)
        have nextb : ∀ M2 (L : sp_L), (∀ q ∈ [(0, .ref (A 15)), (1, .long (lN x)), (4, .int (nI i))], q ∈ L) → cS G M2 A W (sL S ++ wby x (i + 1), S.2) → ffr M M2 W W → sp_W z G M (sp_Q z G M Post 0 0) 6 0 0 99 L [] M2 := by
          intro M2 L hL hc2 hf2
          refine sp_Lm _ hL ?_
          refine sp_run hz _ _ e_SP_write_99 _ _ _ ?_
          simp only [k_SP_write_99, E_nil, E_iconst, E_bipush, E_sipush, E_ldc, E_ldc2, E_lconst, E_null, E_iload_n, E_lload_n, E_aload_n, E_istore_n, E_lstore_n, E_astore_n, E_astoreN_n, E_iload, E_lload, E_aload, E_istore, E_lstore, E_astore, E_astoreN, E_ldi, E_ldl, E_lda, E_ldN, E_iinc, E_iadd, E_isub, E_imul, E_iand, E_ior, E_ixor, E_ishl, E_ishr, E_idiv, E_irem, E_ineg, E_ladd, E_lsub, E_land, E_lor, E_lcmp, E_lshl, E_lshr, E_lushr, E_i2l, E_l2i, E_i2c, E_dupI, E_popI, E_dup_x1II, E_dup2II, E_dup_x1IR, E_dup2IR, E_dup_x1IN, E_dup2IN, E_dupR, E_popR, E_dup_x1RI, E_dup2RI, E_dup_x1RR, E_dup2RR, E_dup_x1RN, E_dup2RN, E_dupN, E_popN, E_dup_x1NI, E_dup2NI, E_dup_x1NR, E_dup2NR, E_dup_x1NN, E_dup2NN, E_goto, E_if_eq, E_if_ne, E_if_lt, E_if_ge, E_if_gt, E_if_le, E_ic_eq, E_ic_ne, E_ic_lt, E_ic_ge, E_ic_gt, E_ic_le, E_ifnull, E_ifnullN, E_ifnonnull, E_ifnonnullN, E_get, E_gf, E_xv, E_n0, E_ns, E_putI, E_putR, E_putN, E_pf, E_st0, E_sts, E_iaload, E_caload, E_laload, E_aaload, E_alen, E_iast, E_cast, E_last, E_xI, E_xJ, E_xQ, E_xN, E_lk, E_lkn, E_s1, E_s1h, E_s1I, E_s1R, E_s1N, E_s1L, E_s2, E_s2h, E_s2L, E_s2I, E_s2R, E_s2N, E_a1, E_a0, E_aI, E_aR, E_aN, E_aL, Option.isSome_some, eq_self, true_and, and_true, true_or, or_true, ne_eq, not_false_eq_true, not_true_eq_false, reduceIte, reduceCtorEq, Nat.reduceAdd, Nat.reduceBEq, Nat.reduceEqDiff, Option.toList_some, Option.toList_none, List.cons_append, List.nil_append, nI_1]
          exact ih (i + 1) M2 _ (by simp) (by omega) (by omega) hc2 hf2
        refine sp_run hz _ _ e_SP_write_69 _ _ _ ?_
        simp only [k_SP_write_69, E_nil, E_iconst, E_bipush, E_sipush, E_ldc, E_ldc2, E_lconst, E_null, E_iload_n, E_lload_n, E_aload_n, E_istore_n, E_lstore_n, E_astore_n, E_astoreN_n, E_iload, E_lload, E_aload, E_istore, E_lstore, E_astore, E_astoreN, E_ldi, E_ldl, E_lda, E_ldN, E_iinc, E_iadd, E_isub, E_imul, E_iand, E_ior, E_ixor, E_ishl, E_ishr, E_idiv, E_irem, E_ineg, E_ladd, E_lsub, E_land, E_lor, E_lcmp, E_lshl, E_lshr, E_lushr, E_i2l, E_l2i, E_i2c, E_dupI, E_popI, E_dup_x1II, E_dup2II, E_dup_x1IR, E_dup2IR, E_dup_x1IN, E_dup2IN, E_dupR, E_popR, E_dup_x1RI, E_dup2RI, E_dup_x1RR, E_dup2RR, E_dup_x1RN, E_dup2RN, E_dupN, E_popN, E_dup_x1NI, E_dup2NI, E_dup_x1NR, E_dup2NR, E_dup_x1NN, E_dup2NN, E_goto, E_if_eq, E_if_ne, E_if_lt, E_if_ge, E_if_gt, E_if_le, E_ic_eq, E_ic_ne, E_ic_lt, E_ic_ge, E_ic_gt, E_ic_le, E_ifnull, E_ifnullN, E_ifnonnull, E_ifnonnullN, E_get, E_gf, E_xv, E_n0, E_ns, E_putI, E_putR, E_putN, E_pf, E_st0, E_sts, E_iaload, E_caload, E_laload, E_aaload, E_alen, E_iast, E_cast, E_last, E_xI, E_xJ, E_xQ, E_xN, E_lk, E_lkn, E_s1, E_s1h, E_s1I, E_s1R, E_s1N, E_s1L, E_s2, E_s2h, E_s2L, E_s2I, E_s2R, E_s2N, E_a1, E_a0, E_aI, E_aR, E_aN, E_aL, Option.isSome_some, eq_self, true_and, and_true, true_or, or_true, ne_eq, not_false_eq_true, not_true_eq_false, reduceIte, reduceCtorEq, Nat.reduceAdd, Nat.reduceBEq, Nat.reduceEqDiff, Option.toList_some, Option.toList_none, List.cons_append, List.nil_append]
        refine ⟨fun h => absurd ((nI_leI (a := 8) (by decide) (by omega)).mp h) (by omega), fun _ => ?_⟩
        refine sp_callS hz (c_SP_byteOf l G) (As := [.long (lN x), .int (nI i)]) (rest := []) w_SP_37 (by decide) rfl (Nat.le_of_ble_eq_true rfl) d_SP_write_79 ⟨x, i, rfl, hx, hi8, ?_⟩ rfl
        have hw := wby_s x i
        refine sp_run hz _ _ e_SP_write_82 _ _ _ ?_
        simp only [k_SP_write_82, E_nil, E_iconst, E_bipush, E_sipush, E_ldc, E_ldc2, E_lconst, E_null, E_iload_n, E_lload_n, E_aload_n, E_istore_n, E_lstore_n, E_astore_n, E_astoreN_n, E_iload, E_lload, E_aload, E_istore, E_lstore, E_astore, E_astoreN, E_ldi, E_ldl, E_lda, E_ldN, E_iinc, E_iadd, E_isub, E_imul, E_iand, E_ior, E_ixor, E_ishl, E_ishr, E_idiv, E_irem, E_ineg, E_ladd, E_lsub, E_land, E_lor, E_lcmp, E_lshl, E_lshr, E_lushr, E_i2l, E_l2i, E_i2c, E_dupI, E_popI, E_dup_x1II, E_dup2II, E_dup_x1IR, E_dup2IR, E_dup_x1IN, E_dup2IN, E_dupR, E_popR, E_dup_x1RI, E_dup2RI, E_dup_x1RR, E_dup2RR, E_dup_x1RN, E_dup2RN, E_dupN, E_popN, E_dup_x1NI, E_dup2NI, E_dup_x1NR, E_dup2NR, E_dup_x1NN, E_dup2NN, E_goto, E_if_eq, E_if_ne, E_if_lt, E_if_ge, E_if_gt, E_if_le, E_ic_eq, E_ic_ne, E_ic_lt, E_ic_ge, E_ic_gt, E_ic_le, E_ifnull, E_ifnullN, E_ifnonnull, E_ifnonnullN, E_get, E_gf, E_xv, E_n0, E_ns, E_putI, E_putR, E_putN, E_pf, E_st0, E_sts, E_iaload, E_caload, E_laload, E_aaload, E_alen, E_iast, E_cast, E_last, E_xI, E_xJ, E_xQ, E_xN, E_lk, E_lkn, E_s1, E_s1h, E_s1I, E_s1R, E_s1N, E_s1L, E_s2, E_s2h, E_s2L, E_s2I, E_s2R, E_s2N, E_a1, E_a0, E_aI, E_aR, E_aN, E_aL, Option.isSome_some, eq_self, true_and, and_true, true_or, or_true, ne_eq, not_false_eq_true, not_true_eq_false, reduceIte, reduceCtorEq, Nat.reduceAdd, Nat.reduceBEq, Nat.reduceEqDiff, Option.toList_some, Option.toList_none, List.cons_append, List.nil_append, h15, kSP]
        refine ⟨fun h => ?_, fun h => ?_⟩
        · have h0 : byt x i = 0 := (nI_eq (by omega) (by decide)).mp (h.trans nI_0.symm)
          rw [if_pos h0] at hw
          refine nextb M1 _ (by simp) ?_ hf1
          rw [hw]
          exact hc1
        · have h0 : ¬ byt x i = 0 := fun e => h (by rw [e]; rfl)
          rw [if_neg h0] at hw
          rw [hw, List.length_append, List.length_cons, List.length_nil] at hwl
          rw [pu_i2c (by omega)]
          refine sp_callV hz (c_Text_add l G) (ci := 0) (As := [.int (nI (byt x i))]) (rest := []) rfl w_SP_49 (by decide) hc1.line.1 rfl (Nat.le_of_ble_eq_true rfl) d_SP_write_96 ⟨A 0, _, _, _, byt x i, rfl, hc1.line, by omega, fun M2 t2 o2 => ?_⟩ rfl
          rw [show pu_add (xcap 0) (sL S ++ wby x i) (byt x i) = sL S ++ wby x i ++ [byt x i] from if_pos (by rw [List.length_append]; show _ < 140; omega)] at t2
          obtain ⟨hc2, hf2⟩ := hc1.wipe t2 o2
          refine nextb M2 _ (by simp) ?_ (hf1.trans hf2)
          rw [hw, ← List.append_assoc]
          exact hc2
    have loop1 : ∀ k i (L : sp_L), (∀ q ∈ [(0, .ref (A 15)), (1, .long (lN x)), (3, .int (nI (wby x i).length)), (4, .int (nI i))], q ∈ L) → 8 - i = k → i ≤ 8 → (∀ j, j < i → byt x j ≠ 0 → pu_ischar (byt x j) = true) → sp_W z G M (sp_Q z G M Post 0 0) 6 0 0 5 L [] M := by
      intro k
      induction k with
      | zero =>
        intro i L hL hk hi hall
        refine sp_Lm _ hL ?_
        have : i = 8 := by omega
        subst this
        have hal : (wby x 8).all pu_ischar = true := wby_all.mpr hall
        refine sp_run hz _ _ e_SP_write_5 _ _ _ ?_
        simp only [k_SP_write_5, E_nil, E_iconst, E_bipush, E_sipush, E_ldc, E_ldc2, E_lconst, E_null, E_iload_n, E_lload_n, E_aload_n, E_istore_n, E_lstore_n, E_astore_n, E_astoreN_n, E_iload, E_lload, E_aload, E_istore, E_lstore, E_astore, E_astoreN, E_ldi, E_ldl, E_lda, E_ldN, E_iinc, E_iadd, E_isub, E_imul, E_iand, E_ior, E_ixor, E_ishl, E_ishr, E_idiv, E_irem, E_ineg, E_ladd, E_lsub, E_land, E_lor, E_lcmp, E_lshl, E_lshr, E_lushr, E_i2l, E_l2i, E_i2c, E_dupI, E_popI, E_dup_x1II, E_dup2II, E_dup_x1IR, E_dup2IR, E_dup_x1IN, E_dup2IN, E_dupR, E_popR, E_dup_x1RI, E_dup2RI, E_dup_x1RR, E_dup2RR, E_dup_x1RN, E_dup2RN, E_dupN, E_popN, E_dup_x1NI, E_dup2NI, E_dup_x1NR, E_dup2NR, E_dup_x1NN, E_dup2NN, E_goto, E_if_eq, E_if_ne, E_if_lt, E_if_ge, E_if_gt, E_if_le, E_ic_eq, E_ic_ne, E_ic_lt, E_ic_ge, E_ic_gt, E_ic_le, E_ifnull, E_ifnullN, E_ifnonnull, E_ifnonnullN, E_get, E_gf, E_xv, E_n0, E_ns, E_putI, E_putR, E_putN, E_pf, E_st0, E_sts, E_iaload, E_caload, E_laload, E_aaload, E_alen, E_iast, E_cast, E_last, E_xI, E_xJ, E_xQ, E_xN, E_lk, E_lkn, E_s1, E_s1h, E_s1I, E_s1R, E_s1N, E_s1L, E_s2, E_s2h, E_s2L, E_s2I, E_s2R, E_s2N, E_a1, E_a0, E_aI, E_aR, E_aN, E_aL, Option.isSome_some, eq_self, true_and, and_true, true_or, or_true, ne_eq, not_false_eq_true, not_true_eq_false, reduceIte, reduceCtorEq, Nat.reduceAdd, Nat.reduceBEq, Nat.reduceEqDiff, Option.toList_some, Option.toList_none, List.cons_append, List.nil_append]
        refine ⟨fun _ => ?_, fun h => absurd (Int32.le_refl _) h⟩
        refine sp_run hz _ _ e_SP_write_49 _ _ _ ?_
        simp only [k_SP_write_49, E_nil, E_iconst, E_bipush, E_sipush, E_ldc, E_ldc2, E_lconst, E_null, E_iload_n, E_lload_n, E_aload_n, E_istore_n, E_lstore_n, E_astore_n, E_astoreN_n, E_iload, E_lload, E_aload, E_istore, E_lstore, E_astore, E_astoreN, E_ldi, E_ldl, E_lda, E_ldN, E_iinc, E_iadd, E_isub, E_imul, E_iand, E_ior, E_ixor, E_ishl, E_ishr, E_idiv, E_irem, E_ineg, E_ladd, E_lsub, E_land, E_lor, E_lcmp, E_lshl, E_lshr, E_lushr, E_i2l, E_l2i, E_i2c, E_dupI, E_popI, E_dup_x1II, E_dup2II, E_dup_x1IR, E_dup2IR, E_dup_x1IN, E_dup2IN, E_dupR, E_popR, E_dup_x1RI, E_dup2RI, E_dup_x1RR, E_dup2RR, E_dup_x1RN, E_dup2RN, E_dupN, E_popN, E_dup_x1NI, E_dup2NI, E_dup_x1NR, E_dup2NR, E_dup_x1NN, E_dup2NN, E_goto, E_if_eq, E_if_ne, E_if_lt, E_if_ge, E_if_gt, E_if_le, E_ic_eq, E_ic_ne, E_ic_lt, E_ic_ge, E_ic_gt, E_ic_le, E_ifnull, E_ifnullN, E_ifnonnull, E_ifnonnullN, E_get, E_gf, E_xv, E_n0, E_ns, E_putI, E_putR, E_putN, E_pf, E_st0, E_sts, E_iaload, E_caload, E_laload, E_aaload, E_alen, E_iast, E_cast, E_last, E_xI, E_xJ, E_xQ, E_xN, E_lk, E_lkn, E_s1, E_s1h, E_s1I, E_s1R, E_s1N, E_s1L, E_s2, E_s2h, E_s2L, E_s2I, E_s2R, E_s2N, E_a1, E_a0, E_aI, E_aR, E_aN, E_aL, Option.isSome_some, eq_self, true_and, and_true, true_or, or_true, ne_eq, not_false_eq_true, not_true_eq_false, reduceIte, reduceCtorEq, Nat.reduceAdd, Nat.reduceBEq, Nat.reduceEqDiff, Option.toList_some, Option.toList_none, List.cons_append, List.nil_append, h15, kSP]
        refine sp_callV hz (c_Text_length l G) (ci := 0) (As := []) (rest := []) rfl w_SP_45 (by decide) hc.line.1 rfl (Nat.le_of_ble_eq_true rfl) d_SP_write_53 ⟨A 0, _, _, _, rfl, hc.line, ?_⟩ rfl
        have hle : nI ((sL S).length + (wby x 8).length) ≤ (140 : Int32) ↔ (sL S).length + (wby x 8).length ≤ 140 := nI_leI (b := 140) (by omega) (by decide)
        refine sp_run hz _ _ e_SP_write_56 _ _ _ ?_
        simp only [k_SP_write_56, E_nil, E_iconst, E_bipush, E_sipush, E_ldc, E_ldc2, E_lconst, E_null, E_iload_n, E_lload_n, E_aload_n, E_istore_n, E_lstore_n, E_astore_n, E_astoreN_n, E_iload, E_lload, E_aload, E_istore, E_lstore, E_astore, E_astoreN, E_ldi, E_ldl, E_lda, E_ldN, E_iinc, E_iadd, E_isub, E_imul, E_iand, E_ior, E_ixor, E_ishl, E_ishr, E_idiv, E_irem, E_ineg, E_ladd, E_lsub, E_land, E_lor, E_lcmp, E_lshl, E_lshr, E_lushr, E_i2l, E_l2i, E_i2c, E_dupI, E_popI, E_dup_x1II, E_dup2II, E_dup_x1IR, E_dup2IR, E_dup_x1IN, E_dup2IN, E_dupR, E_popR, E_dup_x1RI, E_dup2RI, E_dup_x1RR, E_dup2RR, E_dup_x1RN, E_dup2RN, E_dupN, E_popN, E_dup_x1NI, E_dup2NI, E_dup_x1NR, E_dup2NR, E_dup_x1NN, E_dup2NN, E_goto, E_if_eq, E_if_ne, E_if_lt, E_if_ge, E_if_gt, E_if_le, E_ic_eq, E_ic_ne, E_ic_lt, E_ic_ge, E_ic_gt, E_ic_le, E_ifnull, E_ifnullN, E_ifnonnull, E_ifnonnullN, E_get, E_gf, E_xv, E_n0, E_ns, E_putI, E_putR, E_putN, E_pf, E_st0, E_sts, E_iaload, E_caload, E_laload, E_aaload, E_alen, E_iast, E_cast, E_last, E_xI, E_xJ, E_xQ, E_xN, E_lk, E_lkn, E_s1, E_s1h, E_s1I, E_s1R, E_s1N, E_s1L, E_s2, E_s2h, E_s2L, E_s2I, E_s2R, E_s2N, E_a1, E_a0, E_aI, E_aR, E_aN, E_aL, Option.isSome_some, eq_self, true_and, and_true, true_or, or_true, ne_eq, not_false_eq_true, not_true_eq_false, reduceIte, reduceCtorEq, Nat.reduceAdd, Nat.reduceBEq, Nat.reduceEqDiff, Option.toList_some, Option.toList_none, List.cons_append, List.nil_append, nI_add]
        refine ⟨fun h => ?_, fun h => ?_⟩
        · have hok : wOk x (sL S) = true := by
            unfold wOk
            rw [hal, decide_eq_true (hle.mp h)]
            rfl
          refine sp_run hz _ _ e_SP_write_66 _ _ _ ?_
          simp only [k_SP_write_66, E_nil, E_iconst, E_bipush, E_sipush, E_ldc, E_ldc2, E_lconst, E_null, E_iload_n, E_lload_n, E_aload_n, E_istore_n, E_lstore_n, E_astore_n, E_astoreN_n, E_iload, E_lload, E_aload, E_istore, E_lstore, E_astore, E_astoreN, E_ldi, E_ldl, E_lda, E_ldN, E_iinc, E_iadd, E_isub, E_imul, E_iand, E_ior, E_ixor, E_ishl, E_ishr, E_idiv, E_irem, E_ineg, E_ladd, E_lsub, E_land, E_lor, E_lcmp, E_lshl, E_lshr, E_lushr, E_i2l, E_l2i, E_i2c, E_dupI, E_popI, E_dup_x1II, E_dup2II, E_dup_x1IR, E_dup2IR, E_dup_x1IN, E_dup2IN, E_dupR, E_popR, E_dup_x1RI, E_dup2RI, E_dup_x1RR, E_dup2RR, E_dup_x1RN, E_dup2RN, E_dupN, E_popN, E_dup_x1NI, E_dup2NI, E_dup_x1NR, E_dup2NR, E_dup_x1NN, E_dup2NN, E_goto, E_if_eq, E_if_ne, E_if_lt, E_if_ge, E_if_gt, E_if_le, E_ic_eq, E_ic_ne, E_ic_lt, E_ic_ge, E_ic_gt, E_ic_le, E_ifnull, E_ifnullN, E_ifnonnull, E_ifnonnullN, E_get, E_gf, E_xv, E_n0, E_ns, E_putI, E_putR, E_putN, E_pf, E_st0, E_sts, E_iaload, E_caload, E_laload, E_aaload, E_alen, E_iast, E_cast, E_last, E_xI, E_xJ, E_xQ, E_xN, E_lk, E_lkn, E_s1, E_s1h, E_s1I, E_s1R, E_s1N, E_s1L, E_s2, E_s2h, E_s2L, E_s2I, E_s2R, E_s2N, E_a1, E_a0, E_aI, E_aR, E_aN, E_aL, Option.isSome_some, eq_self, true_and, and_true, true_or, or_true, ne_eq, not_false_eq_true, not_true_eq_false, reduceIte, reduceCtorEq, Nat.reduceAdd, Nat.reduceBEq, Nat.reduceEqDiff, Option.toList_some, Option.toList_none, List.cons_append, List.nil_append]
          exact loop2 hok 8 0 M _ (by simp [nI_0]) rfl (by decide) (by rw [show wby x 0 = [] from rfl, List.append_nil]; exact hc) (ffr.refl _ _)
        · have hno : wOk x (sL S) = false := by
            unfold wOk
            rw [decide_eq_false (fun q => h (hle.mpr q)), Bool.and_false]
          exact sp_zret hz d_SP_write_65 rfl (Nat.le_refl _) (Nat.le_refl _) (p0 hno)
      | succ k ih =>
        intro i L hL hk hi hall
        refine sp_Lm _ hL ?_
        have hi8 : i < 8 := by omega
        have hb := byt_lt x i
        have hw := wby_s x i
        have wl := wby_len x i
        have fin : ∀ n (L : sp_L), (∀ q ∈ [(0, .ref (A 15)), (1, .long (lN x)), (3, .int (nI n)), (4, .int (nI i))], q ∈ L) → n = (wby x (i + 1)).length → (byt x i ≠ 0 → pu_ischar (byt x i) = true) → sp_W z G M (sp_Q z G M Post 0 0) 6 0 0 43 L [] M := by
          intro n L hL hn hch
          refine sp_Lm _ hL ?_
          refine sp_run hz _ _ e_SP_write_43 _ _ _ ?_
          simp only [k_SP_write_43, E_nil, E_iconst, E_bipush, E_sipush, E_ldc, E_ldc2, E_lconst, E_null, E_iload_n, E_lload_n, E_aload_n, E_istore_n, E_lstore_n, E_astore_n, E_astoreN_n, E_iload, E_lload, E_aload, E_istore, E_lstore, E_astore, E_astoreN, E_ldi, E_ldl, E_lda, E_ldN, E_iinc, E_iadd, E_isub, E_imul, E_iand, E_ior, E_ixor, E_ishl, E_ishr, E_idiv, E_irem, E_ineg, E_ladd, E_lsub, E_land, E_lor, E_lcmp, E_lshl, E_lshr, E_lushr, E_i2l, E_l2i, E_i2c, E_dupI, E_popI, E_dup_x1II, E_dup2II, E_dup_x1IR, E_dup2IR, E_dup_x1IN, E_dup2IN, E_dupR, E_popR, E_dup_x1RI, E_dup2RI, E_dup_x1RR, E_dup2RR, E_dup_x1RN, E_dup2RN, E_dupN, E_popN, E_dup_x1NI, E_dup2NI, E_dup_x1NR, E_dup2NR, E_dup_x1NN, E_dup2NN, E_goto, E_if_eq, E_if_ne, E_if_lt, E_if_ge, E_if_gt, E_if_le, E_ic_eq, E_ic_ne, E_ic_lt, E_ic_ge, E_ic_gt, E_ic_le, E_ifnull, E_ifnullN, E_ifnonnull, E_ifnonnullN, E_get, E_gf, E_xv, E_n0, E_ns, E_putI, E_putR, E_putN, E_pf, E_st0, E_sts, E_iaload, E_caload, E_laload, E_aaload, E_alen, E_iast, E_cast, E_last, E_xI, E_xJ, E_xQ, E_xN, E_lk, E_lkn, E_s1, E_s1h, E_s1I, E_s1R, E_s1N, E_s1L, E_s2, E_s2h, E_s2L, E_s2I, E_s2R, E_s2N, E_a1, E_a0, E_aI, E_aR, E_aN, E_aL, Option.isSome_some, eq_self, true_and, and_true, true_or, or_true, ne_eq, not_false_eq_true, not_true_eq_false, reduceIte, reduceCtorEq, Nat.reduceAdd, Nat.reduceBEq, Nat.reduceEqDiff, Option.toList_some, Option.toList_none, List.cons_append, List.nil_append, nI_1]
          refine ih (i + 1) _ (by simp [hn]) (by omega) (by omega) (fun j hj h0 => ?_)
          by_cases e : j = i
          · rw [e] at h0 ⊢; exact hch h0
          · exact hall j (by omega) h0
        have at35 : (byt x i ≠ 0 → pu_ischar (byt x i) = true) → sp_W z G M (sp_Q z G M Post 0 0) 6 0 0 35 [(5, .int (nI (byt x i))), (0, .ref (A 15)), (1, .long (lN x)), (3, .int (nI (wby x i).length)), (4, .int (nI i))] [] M := by
          intro hch
          refine sp_run hz _ _ e_SP_write_35 _ _ _ ?_
          simp only [k_SP_write_35, E_nil, E_iconst, E_bipush, E_sipush, E_ldc, E_ldc2, E_lconst, E_null, E_iload_n, E_lload_n, E_aload_n, E_istore_n, E_lstore_n, E_astore_n, E_astoreN_n, E_iload, E_lload, E_aload, E_istore, E_lstore, E_astore, E_astoreN, E_ldi, E_ldl, E_lda, E_ldN, E_iinc, E_iadd, E_isub, E_imul, E_iand, E_ior, E_ixor, E_ishl, E_ishr, E_idiv, E_irem, E_ineg, E_ladd, E_lsub, E_land, E_lor, E_lcmp, E_lshl, E_lshr, E_lushr, E_i2l, E_l2i, E_i2c, E_dupI, E_popI, E_dup_x1II, E_dup2II, E_dup_x1IR, E_dup2IR, E_dup_x1IN, E_dup2IN, E_dupR, E_popR, E_dup_x1RI, E_dup2RI, E_dup_x1RR, E_dup2RR, E_dup_x1RN, E_dup2RN, E_dupN, E_popN, E_dup_x1NI, E_dup2NI, E_dup_x1NR, E_dup2NR, E_dup_x1NN, E_dup2NN, E_goto, E_if_eq, E_if_ne, E_if_lt, E_if_ge, E_if_gt, E_if_le, E_ic_eq, E_ic_ne, E_ic_lt, E_ic_ge, E_ic_gt, E_ic_le, E_ifnull, E_ifnullN, E_ifnonnull, E_ifnonnullN, E_get, E_gf, E_xv, E_n0, E_ns, E_putI, E_putR, E_putN, E_pf, E_st0, E_sts, E_iaload, E_caload, E_laload, E_aaload, E_alen, E_iast, E_cast, E_last, E_xI, E_xJ, E_xQ, E_xN, E_lk, E_lkn, E_s1, E_s1h, E_s1I, E_s1R, E_s1N, E_s1L, E_s2, E_s2h, E_s2L, E_s2I, E_s2R, E_s2N, E_a1, E_a0, E_aI, E_aR, E_aN, E_aL, Option.isSome_some, eq_self, true_and, and_true, true_or, or_true, ne_eq, not_false_eq_true, not_true_eq_false, reduceIte, reduceCtorEq, Nat.reduceAdd, Nat.reduceBEq, Nat.reduceEqDiff, Option.toList_some, Option.toList_none, List.cons_append, List.nil_append, nI_1]
          refine ⟨fun h => ?_, fun h => ?_⟩
          · have h0 : byt x i = 0 := (nI_eq (by omega) (by decide)).mp (h.trans nI_0.symm)
            rw [if_pos h0] at hw
            exact fin (wby x i).length _ (by simp) (by rw [hw]) hch
          · have h0 : ¬ byt x i = 0 := fun e => h (by rw [e]; rfl)
            rw [if_neg h0] at hw
            exact fin ((wby x i).length + 1) _ (by simp) (by rw [hw, List.length_append]; rfl) hch
        refine sp_run hz _ _ e_SP_write_5 _ _ _ ?_
        simp only [k_SP_write_5, E_nil, E_iconst, E_bipush, E_sipush, E_ldc, E_ldc2, E_lconst, E_null, E_iload_n, E_lload_n, E_aload_n, E_istore_n, E_lstore_n, E_astore_n, E_astoreN_n, E_iload, E_lload, E_aload, E_istore, E_lstore, E_astore, E_astoreN, E_ldi, E_ldl, E_lda, E_ldN, E_iinc, E_iadd, E_isub, E_imul, E_iand, E_ior, E_ixor, E_ishl, E_ishr, E_idiv, E_irem, E_ineg, E_ladd, E_lsub, E_land, E_lor, E_lcmp, E_lshl, E_lshr, E_lushr, E_i2l, E_l2i, E_i2c, E_dupI, E_popI, E_dup_x1II, E_dup2II, E_dup_x1IR, E_dup2IR, E_dup_x1IN, E_dup2IN, E_dupR, E_popR, E_dup_x1RI, E_dup2RI, E_dup_x1RR, E_dup2RR, E_dup_x1RN, E_dup2RN, E_dupN, E_popN, E_dup_x1NI, E_dup2NI, E_dup_x1NR, E_dup2NR, E_dup_x1NN, E_dup2NN, E_goto, E_if_eq, E_if_ne, E_if_lt, E_if_ge, E_if_gt, E_if_le, E_ic_eq, E_ic_ne, E_ic_lt, E_ic_ge, E_ic_gt, E_ic_le, E_ifnull, E_ifnullN, E_ifnonnull, E_ifnonnullN, E_get, E_gf, E_xv, E_n0, E_ns, E_putI, E_putR, E_putN, E_pf, E_st0, E_sts, E_iaload, E_caload, E_laload, E_aaload, E_alen, E_iast, E_cast, E_last, E_xI, E_xJ, E_xQ, E_xN, E_lk, E_lkn, E_s1, E_s1h, E_s1I, E_s1R, E_s1N, E_s1L, E_s2, E_s2h, E_s2L, E_s2I, E_s2R, E_s2N, E_a1, E_a0, E_aI, E_aR, E_aN, E_aL, Option.isSome_some, eq_self, true_and, and_true, true_or, or_true, ne_eq, not_false_eq_true, not_true_eq_false, reduceIte, reduceCtorEq, Nat.reduceAdd, Nat.reduceBEq, Nat.reduceEqDiff, Option.toList_some, Option.toList_none, List.cons_append, List.nil_append]
        refine ⟨fun h => absurd ((nI_leI (a := 8) (by decide) (by omega)).mp h) (by omega), fun _ => ?_⟩
        refine sp_callS hz (c_SP_byteOf l G) (As := [.long (lN x), .int (nI i)]) (rest := []) w_SP_37 (by decide) rfl (Nat.le_of_ble_eq_true rfl) d_SP_write_15 ⟨x, i, rfl, hx, hi8, ?_⟩ rfl
        refine sp_run hz _ _ e_SP_write_18 _ _ _ ?_
        simp only [k_SP_write_18, E_nil, E_iconst, E_bipush, E_sipush, E_ldc, E_ldc2, E_lconst, E_null, E_iload_n, E_lload_n, E_aload_n, E_istore_n, E_lstore_n, E_astore_n, E_astoreN_n, E_iload, E_lload, E_aload, E_istore, E_lstore, E_astore, E_astoreN, E_ldi, E_ldl, E_lda, E_ldN, E_iinc, E_iadd, E_isub, E_imul, E_iand, E_ior, E_ixor, E_ishl, E_ishr, E_idiv, E_irem, E_ineg, E_ladd, E_lsub, E_land, E_lor, E_lcmp, E_lshl, E_lshr, E_lushr, E_i2l, E_l2i, E_i2c, E_dupI, E_popI, E_dup_x1II, E_dup2II, E_dup_x1IR, E_dup2IR, E_dup_x1IN, E_dup2IN, E_dupR, E_popR, E_dup_x1RI, E_dup2RI, E_dup_x1RR, E_dup2RR, E_dup_x1RN, E_dup2RN, E_dupN, E_popN, E_dup_x1NI, E_dup2NI, E_dup_x1NR, E_dup2NR, E_dup_x1NN, E_dup2NN, E_goto, E_if_eq, E_if_ne, E_if_lt, E_if_ge, E_if_gt, E_if_le, E_ic_eq, E_ic_ne, E_ic_lt, E_ic_ge, E_ic_gt, E_ic_le, E_ifnull, E_ifnullN, E_ifnonnull, E_ifnonnullN, E_get, E_gf, E_xv, E_n0, E_ns, E_putI, E_putR, E_putN, E_pf, E_st0, E_sts, E_iaload, E_caload, E_laload, E_aaload, E_alen, E_iast, E_cast, E_last, E_xI, E_xJ, E_xQ, E_xN, E_lk, E_lkn, E_s1, E_s1h, E_s1I, E_s1R, E_s1N, E_s1L, E_s2, E_s2h, E_s2L, E_s2I, E_s2R, E_s2N, E_a1, E_a0, E_aI, E_aR, E_aN, E_aL, Option.isSome_some, eq_self, true_and, and_true, true_or, or_true, ne_eq, not_false_eq_true, not_true_eq_false, reduceIte, reduceCtorEq, Nat.reduceAdd, Nat.reduceBEq, Nat.reduceEqDiff, Option.toList_some, Option.toList_none, List.cons_append, List.nil_append]
        refine ⟨fun h => at35 (fun h0 => absurd ((nI_eq (by omega) (by decide)).mp (h.trans nI_0.symm)) h0), fun h => ?_⟩
        have h0 : ¬ byt x i = 0 := fun e => h (by rw [e]; rfl)
        refine sp_callS hz (c_Text_isCharacter l G) (As := [.int (nI (byt x i))]) (rest := []) w_SP_41 (by decide) rfl (Nat.le_of_ble_eq_true rfl) d_SP_write_27 ⟨byt x i, rfl, by omega, ?_⟩ rfl
        refine sp_run hz _ _ e_SP_write_30 _ _ _ ?_
        cases hch : pu_ischar (byt x i) with
        | true =>
          simp only [k_SP_write_30, E_nil, E_iconst, E_bipush, E_sipush, E_ldc, E_ldc2, E_lconst, E_null, E_iload_n, E_lload_n, E_aload_n, E_istore_n, E_lstore_n, E_astore_n, E_astoreN_n, E_iload, E_lload, E_aload, E_istore, E_lstore, E_astore, E_astoreN, E_ldi, E_ldl, E_lda, E_ldN, E_iinc, E_iadd, E_isub, E_imul, E_iand, E_ior, E_ixor, E_ishl, E_ishr, E_idiv, E_irem, E_ineg, E_ladd, E_lsub, E_land, E_lor, E_lcmp, E_lshl, E_lshr, E_lushr, E_i2l, E_l2i, E_i2c, E_dupI, E_popI, E_dup_x1II, E_dup2II, E_dup_x1IR, E_dup2IR, E_dup_x1IN, E_dup2IN, E_dupR, E_popR, E_dup_x1RI, E_dup2RI, E_dup_x1RR, E_dup2RR, E_dup_x1RN, E_dup2RN, E_dupN, E_popN, E_dup_x1NI, E_dup2NI, E_dup_x1NR, E_dup2NR, E_dup_x1NN, E_dup2NN, E_goto, E_if_eq, E_if_ne, E_if_lt, E_if_ge, E_if_gt, E_if_le, E_ic_eq, E_ic_ne, E_ic_lt, E_ic_ge, E_ic_gt, E_ic_le, E_ifnull, E_ifnullN, E_ifnonnull, E_ifnonnullN, E_get, E_gf, E_xv, E_n0, E_ns, E_putI, E_putR, E_putN, E_pf, E_st0, E_sts, E_iaload, E_caload, E_laload, E_aaload, E_alen, E_iast, E_cast, E_last, E_xI, E_xJ, E_xQ, E_xN, E_lk, E_lkn, E_s1, E_s1h, E_s1I, E_s1R, E_s1N, E_s1L, E_s2, E_s2h, E_s2L, E_s2I, E_s2R, E_s2N, E_a1, E_a0, E_aI, E_aR, E_aN, E_aL, Option.isSome_some, eq_self, true_and, and_true, true_or, or_true, ne_eq, not_false_eq_true, not_true_eq_false, reduceIte, reduceCtorEq, Nat.reduceAdd, Nat.reduceBEq, Nat.reduceEqDiff, Option.toList_some, Option.toList_none, List.cons_append, List.nil_append, b2i]
          exact ⟨fun _ => at35 (fun _ => hch), fun h => absurd h (by decide)⟩
        | false =>
          simp only [k_SP_write_30, E_nil, E_iconst, E_bipush, E_sipush, E_ldc, E_ldc2, E_lconst, E_null, E_iload_n, E_lload_n, E_aload_n, E_istore_n, E_lstore_n, E_astore_n, E_astoreN_n, E_iload, E_lload, E_aload, E_istore, E_lstore, E_astore, E_astoreN, E_ldi, E_ldl, E_lda, E_ldN, E_iinc, E_iadd, E_isub, E_imul, E_iand, E_ior, E_ixor, E_ishl, E_ishr, E_idiv, E_irem, E_ineg, E_ladd, E_lsub, E_land, E_lor, E_lcmp, E_lshl, E_lshr, E_lushr, E_i2l, E_l2i, E_i2c, E_dupI, E_popI, E_dup_x1II, E_dup2II, E_dup_x1IR, E_dup2IR, E_dup_x1IN, E_dup2IN, E_dupR, E_popR, E_dup_x1RI, E_dup2RI, E_dup_x1RR, E_dup2RR, E_dup_x1RN, E_dup2RN, E_dupN, E_popN, E_dup_x1NI, E_dup2NI, E_dup_x1NR, E_dup2NR, E_dup_x1NN, E_dup2NN, E_goto, E_if_eq, E_if_ne, E_if_lt, E_if_ge, E_if_gt, E_if_le, E_ic_eq, E_ic_ne, E_ic_lt, E_ic_ge, E_ic_gt, E_ic_le, E_ifnull, E_ifnullN, E_ifnonnull, E_ifnonnullN, E_get, E_gf, E_xv, E_n0, E_ns, E_putI, E_putR, E_putN, E_pf, E_st0, E_sts, E_iaload, E_caload, E_laload, E_aaload, E_alen, E_iast, E_cast, E_last, E_xI, E_xJ, E_xQ, E_xN, E_lk, E_lkn, E_s1, E_s1h, E_s1I, E_s1R, E_s1N, E_s1L, E_s2, E_s2h, E_s2L, E_s2I, E_s2R, E_s2N, E_a1, E_a0, E_aI, E_aR, E_aN, E_aL, Option.isSome_some, eq_self, true_and, and_true, true_or, or_true, ne_eq, not_false_eq_true, not_true_eq_false, reduceIte, reduceCtorEq, Nat.reduceAdd, Nat.reduceBEq, Nat.reduceEqDiff, Option.toList_some, Option.toList_none, List.cons_append, List.nil_append, b2i, Bool.false_eq_true]
          refine ⟨fun h => h.elim, fun _ => ?_⟩
          have hno : wOk x (sL S) = false := by
            unfold wOk
            have : (wby x 8).all pu_ischar = false := by
              cases ha : (wby x 8).all pu_ischar with
              | false => rfl
              | true =>
                have := wby_all.mp ha i hi8 h0
                rw [hch] at this
                cases this
            rw [this, Bool.false_and]
          exact sp_zret hz d_SP_write_34 rfl (Nat.le_refl _) (Nat.le_refl _) (p0 hno)
    refine sp_run hz _ _ e_SP_write_0 _ _ _ ?_
    simp only [k_SP_write_0, E_nil, E_iconst, E_bipush, E_sipush, E_ldc, E_ldc2, E_lconst, E_null, E_iload_n, E_lload_n, E_aload_n, E_istore_n, E_lstore_n, E_astore_n, E_astoreN_n, E_iload, E_lload, E_aload, E_istore, E_lstore, E_astore, E_astoreN, E_ldi, E_ldl, E_lda, E_ldN, E_iinc, E_iadd, E_isub, E_imul, E_iand, E_ior, E_ixor, E_ishl, E_ishr, E_idiv, E_irem, E_ineg, E_ladd, E_lsub, E_land, E_lor, E_lcmp, E_lshl, E_lshr, E_lushr, E_i2l, E_l2i, E_i2c, E_dupI, E_popI, E_dup_x1II, E_dup2II, E_dup_x1IR, E_dup2IR, E_dup_x1IN, E_dup2IN, E_dupR, E_popR, E_dup_x1RI, E_dup2RI, E_dup_x1RR, E_dup2RR, E_dup_x1RN, E_dup2RN, E_dupN, E_popN, E_dup_x1NI, E_dup2NI, E_dup_x1NR, E_dup2NR, E_dup_x1NN, E_dup2NN, E_goto, E_if_eq, E_if_ne, E_if_lt, E_if_ge, E_if_gt, E_if_le, E_ic_eq, E_ic_ne, E_ic_lt, E_ic_ge, E_ic_gt, E_ic_le, E_ifnull, E_ifnullN, E_ifnonnull, E_ifnonnullN, E_get, E_gf, E_xv, E_n0, E_ns, E_putI, E_putR, E_putN, E_pf, E_st0, E_sts, E_iaload, E_caload, E_laload, E_aaload, E_alen, E_iast, E_cast, E_last, E_xI, E_xJ, E_xQ, E_xN, E_lk, E_lkn, E_s1, E_s1h, E_s1I, E_s1R, E_s1N, E_s1L, E_s2, E_s2h, E_s2L, E_s2I, E_s2R, E_s2N, E_a1, E_a0, E_aI, E_aR, E_aN, E_aL, Option.isSome_some, eq_self, true_and, and_true, true_or, or_true, ne_eq, not_false_eq_true, not_true_eq_false, reduceIte, reduceCtorEq, Nat.reduceAdd, Nat.reduceBEq, Nat.reduceEqDiff, Option.toList_some, Option.toList_none, List.cons_append, List.nil_append]
    exact loop1 8 0 _ (by simp [nI_0, show wby x 0 = [] from rfl]) rfl (by decide) (fun j h => absurd h (Nat.not_lt_zero _))
/-- send: what the class answers and keeps -/
def snC (S : AS) : AS :=
  let s := sL S
  let ce := pu_brk s
  let ws := wk s ce
  let v := fv s ws
  if flt v s ws ce = 3 then
    let r := oby v s ws ce (sI S) (sP S) (sN S) (sH S) (sM S)
    ([], (if nrp v s ws = true then [] else r.2.2.2.2.2), r.2.1, r.1, r.2.2.1, r.2.2.2.1, r.2.2.2.2.1)
  else ([], sv (flt v s ws ce), S.2.2)
def T_SP_send (G : sp_G) : sp_T := fun av M Post => ∃ A W S, av = [.ref (A 15)] ∧ cS G M A W S ∧ (∀ x ∈ sI S, itOk x) ∧ ∀ M' W', cS G M' A W' (snC S) → ffr M M' W W' → Post (some (.int (nI (sA (snC S)).length))) M'
theorem flt_3 {v : Nat} {s : List Nat} {ws : List (Nat × Nat)} {ce : Nat} (h : flt v s ws ce = 3) : v ≠ 13 ∧ wfm v s ws = true ∧ fit v s ws ce = true := by
  unfold flt at h
  split at h
  · cases h
  · rename_i h13
    split at h
    · cases h
    · rename_i hw
      split at h
      · rename_i hf
        exact ⟨h13, by cases hh : wfm v s ws <;> first | exact absurd hh hw | rfl, hf⟩
      · cases h
set_option maxHeartbeats 4000000 in
set_option maxRecDepth 100000 in
theorem c_SP_send (l : Launch) (G : sp_G) : sp_Met l G y_SP_send b_SP_send 1 (some .int) { frames := 9, cells := 24, slots := 144, locals := 193 } (T_SP_send G) := by
  refine sp_entry (by decide) (fun av M Post h => ?_) (fun z M av Post hz _ hT => ?_)
  · obtain ⟨A, W, S, rfl, -⟩ := h
    exact Nat.le_of_ble_eq_true rfl
  · obtain ⟨A, W, S, rfl, hc, hit, hp⟩ := hT
    have h15 := hc.sp
    obtain ⟨sh, os, fr, Q, X, N, ws, hk, ha, e0, e2, n0, n1⟩ := hc
    have tail : ∀ M1 W1 pg1 os1 fr1 Q1 nn1 X1 N1 ws1 L1 cs sl, cs ≤ 24 → sl ≤ 144 → kS G M1 A sh W1 pg1 os1 fr1 Q1 nn1 X1 N1 ws1 → absR os1 Q1 L1 → snC S = ([], X1 2, L1, pg1, nn1, N1 0, N1 1) → ffr M M1 W W1 → sp_W z G M (sp_Q z G M Post 24 144) 1 cs sl 24 [(0, .ref (A 15))] [] M1 := by
      intro M1 W1 pg1 os1 fr1 Q1 nn1 X1 N1 ws1 L1 cs sl hcs hsl hk1 ha1 es hf1
      refine sp_widen hcs hsl ?_
      have h15 := hk1.2.2.2.1
      refine sp_run hz _ _ e_SP_send_24 _ _ _ ?_
      simp only [k_SP_send_24, E_nil, E_iconst, E_bipush, E_sipush, E_ldc, E_ldc2, E_lconst, E_null, E_iload_n, E_lload_n, E_aload_n, E_istore_n, E_lstore_n, E_astore_n, E_astoreN_n, E_iload, E_lload, E_aload, E_istore, E_lstore, E_astore, E_astoreN, E_ldi, E_ldl, E_lda, E_ldN, E_iinc, E_iadd, E_isub, E_imul, E_iand, E_ior, E_ixor, E_ishl, E_ishr, E_idiv, E_irem, E_ineg, E_ladd, E_lsub, E_land, E_lor, E_lcmp, E_lshl, E_lshr, E_lushr, E_i2l, E_l2i, E_i2c, E_dupI, E_popI, E_dup_x1II, E_dup2II, E_dup_x1IR, E_dup2IR, E_dup_x1IN, E_dup2IN, E_dupR, E_popR, E_dup_x1RI, E_dup2RI, E_dup_x1RR, E_dup2RR, E_dup_x1RN, E_dup2RN, E_dupN, E_popN, E_dup_x1NI, E_dup2NI, E_dup_x1NR, E_dup2NR, E_dup_x1NN, E_dup2NN, E_goto, E_if_eq, E_if_ne, E_if_lt, E_if_ge, E_if_gt, E_if_le, E_ic_eq, E_ic_ne, E_ic_lt, E_ic_ge, E_ic_gt, E_ic_le, E_ifnull, E_ifnullN, E_ifnonnull, E_ifnonnullN, E_get, E_gf, E_xv, E_n0, E_ns, E_putI, E_putR, E_putN, E_pf, E_st0, E_sts, E_iaload, E_caload, E_laload, E_aaload, E_alen, E_iast, E_cast, E_last, E_xI, E_xJ, E_xQ, E_xN, E_lk, E_lkn, E_s1, E_s1h, E_s1I, E_s1R, E_s1N, E_s1L, E_s2, E_s2h, E_s2L, E_s2I, E_s2R, E_s2N, E_a1, E_a0, E_aI, E_aR, E_aN, E_aL, Option.isSome_some, eq_self, true_and, and_true, true_or, or_true, ne_eq, not_false_eq_true, not_true_eq_false, reduceIte, reduceCtorEq, Nat.reduceAdd, Nat.reduceBEq, Nat.reduceEqDiff, Option.toList_some, Option.toList_none, List.cons_append, List.nil_append, h15, kSP]
      refine sp_callV hz (c_Text_clear l G) (ci := 0) (As := []) (rest := []) rfl w_SP_53 (by decide) (hk1.T x0).1 rfl (Nat.le_of_ble_eq_true rfl) d_SP_send_28 ⟨A 0, _, _, _, rfl, hk1.T x0, fun M2 t2 o2 => ?_⟩ rfl
      obtain ⟨hk2, hf2⟩ := hk1.text x0 t2 o2
      have h15 := hk2.2.2.2.1
      refine sp_run hz _ _ e_SP_send_31 _ _ _ ?_
      simp only [k_SP_send_31, E_nil, E_iconst, E_bipush, E_sipush, E_ldc, E_ldc2, E_lconst, E_null, E_iload_n, E_lload_n, E_aload_n, E_istore_n, E_lstore_n, E_astore_n, E_astoreN_n, E_iload, E_lload, E_aload, E_istore, E_lstore, E_astore, E_astoreN, E_ldi, E_ldl, E_lda, E_ldN, E_iinc, E_iadd, E_isub, E_imul, E_iand, E_ior, E_ixor, E_ishl, E_ishr, E_idiv, E_irem, E_ineg, E_ladd, E_lsub, E_land, E_lor, E_lcmp, E_lshl, E_lshr, E_lushr, E_i2l, E_l2i, E_i2c, E_dupI, E_popI, E_dup_x1II, E_dup2II, E_dup_x1IR, E_dup2IR, E_dup_x1IN, E_dup2IN, E_dupR, E_popR, E_dup_x1RI, E_dup2RI, E_dup_x1RR, E_dup2RR, E_dup_x1RN, E_dup2RN, E_dupN, E_popN, E_dup_x1NI, E_dup2NI, E_dup_x1NR, E_dup2NR, E_dup_x1NN, E_dup2NN, E_goto, E_if_eq, E_if_ne, E_if_lt, E_if_ge, E_if_gt, E_if_le, E_ic_eq, E_ic_ne, E_ic_lt, E_ic_ge, E_ic_gt, E_ic_le, E_ifnull, E_ifnullN, E_ifnonnull, E_ifnonnullN, E_get, E_gf, E_xv, E_n0, E_ns, E_putI, E_putR, E_putN, E_pf, E_st0, E_sts, E_iaload, E_caload, E_laload, E_aaload, E_alen, E_iast, E_cast, E_last, E_xI, E_xJ, E_xQ, E_xN, E_lk, E_lkn, E_s1, E_s1h, E_s1I, E_s1R, E_s1N, E_s1L, E_s2, E_s2h, E_s2L, E_s2I, E_s2R, E_s2N, E_a1, E_a0, E_aI, E_aR, E_aN, E_aL, Option.isSome_some, eq_self, true_and, and_true, true_or, or_true, ne_eq, not_false_eq_true, not_true_eq_false, reduceIte, reduceCtorEq, Nat.reduceAdd, Nat.reduceBEq, Nat.reduceEqDiff, Option.toList_some, Option.toList_none, List.cons_append, List.nil_append, h15, kSP]
      have ta := hk2.T x2
      rw [up_n _ _ (by decide)] at ta
      refine sp_callV hz (c_Text_length l G) (ci := 0) (As := []) (rest := []) rfl w_SP_45 (by decide) ta.1 rfl (Nat.le_of_ble_eq_true rfl) d_SP_send_35 ⟨A 2, _, _, _, rfl, ta, ?_⟩ rfl
      have hc2 : cS G M2 A W1 (snC S) := by
        rw [es]
        exact ⟨sh, os1, fr1, Q1, _, N1, ws1, hk2, ha1, up_s _ _ _, up_n _ _ (by decide), rfl, rfl⟩
      have := hp M2 W1 hc2 (hf1.trans hf2)
      rw [es] at this
      exact sp_iret hz d_SP_send_38 (Nat.le_refl _) (Nat.le_refl _) this
    refine sp_run hz _ _ e_SP_send_0 _ _ _ ?_
    simp only [k_SP_send_0, E_nil, E_iconst, E_bipush, E_sipush, E_ldc, E_ldc2, E_lconst, E_null, E_iload_n, E_lload_n, E_aload_n, E_istore_n, E_lstore_n, E_astore_n, E_astoreN_n, E_iload, E_lload, E_aload, E_istore, E_lstore, E_astore, E_astoreN, E_ldi, E_ldl, E_lda, E_ldN, E_iinc, E_iadd, E_isub, E_imul, E_iand, E_ior, E_ixor, E_ishl, E_ishr, E_idiv, E_irem, E_ineg, E_ladd, E_lsub, E_land, E_lor, E_lcmp, E_lshl, E_lshr, E_lushr, E_i2l, E_l2i, E_i2c, E_dupI, E_popI, E_dup_x1II, E_dup2II, E_dup_x1IR, E_dup2IR, E_dup_x1IN, E_dup2IN, E_dupR, E_popR, E_dup_x1RI, E_dup2RI, E_dup_x1RR, E_dup2RR, E_dup_x1RN, E_dup2RN, E_dupN, E_popN, E_dup_x1NI, E_dup2NI, E_dup_x1NR, E_dup2NR, E_dup_x1NN, E_dup2NN, E_goto, E_if_eq, E_if_ne, E_if_lt, E_if_ge, E_if_gt, E_if_le, E_ic_eq, E_ic_ne, E_ic_lt, E_ic_ge, E_ic_gt, E_ic_le, E_ifnull, E_ifnullN, E_ifnonnull, E_ifnonnullN, E_get, E_gf, E_xv, E_n0, E_ns, E_putI, E_putR, E_putN, E_pf, E_st0, E_sts, E_iaload, E_caload, E_laload, E_aaload, E_alen, E_iast, E_cast, E_last, E_xI, E_xJ, E_xQ, E_xN, E_lk, E_lkn, E_s1, E_s1h, E_s1I, E_s1R, E_s1N, E_s1L, E_s2, E_s2h, E_s2L, E_s2I, E_s2R, E_s2N, E_a1, E_a0, E_aI, E_aR, E_aN, E_aL, Option.isSome_some, eq_self, true_and, and_true, true_or, or_true, ne_eq, not_false_eq_true, not_true_eq_false, reduceIte, reduceCtorEq, Nat.reduceAdd, Nat.reduceBEq, Nat.reduceEqDiff, Option.toList_some, Option.toList_none, List.cons_append, List.nil_append, h15, kSP]
    refine sp_callV hz (c_Text_clear l G) (ci := 0) (As := []) (rest := []) rfl w_SP_53 (by decide) (hk.T x2).1 rfl (Nat.le_of_ble_eq_true rfl) d_SP_send_4 ⟨A 2, _, _, _, rfl, hk.T x2, fun M1 t1 o1 => ?_⟩ rfl
    obtain ⟨hk1, hf1⟩ := hk.text x2 t1 o1
    have h15 := hk1.2.2.2.1
    refine sp_run hz _ _ e_SP_send_7 _ _ _ ?_
    simp only [k_SP_send_7, E_nil, E_iconst, E_bipush, E_sipush, E_ldc, E_ldc2, E_lconst, E_null, E_iload_n, E_lload_n, E_aload_n, E_istore_n, E_lstore_n, E_astore_n, E_astoreN_n, E_iload, E_lload, E_aload, E_istore, E_lstore, E_astore, E_astoreN, E_ldi, E_ldl, E_lda, E_ldN, E_iinc, E_iadd, E_isub, E_imul, E_iand, E_ior, E_ixor, E_ishl, E_ishr, E_idiv, E_irem, E_ineg, E_ladd, E_lsub, E_land, E_lor, E_lcmp, E_lshl, E_lshr, E_lushr, E_i2l, E_l2i, E_i2c, E_dupI, E_popI, E_dup_x1II, E_dup2II, E_dup_x1IR, E_dup2IR, E_dup_x1IN, E_dup2IN, E_dupR, E_popR, E_dup_x1RI, E_dup2RI, E_dup_x1RR, E_dup2RR, E_dup_x1RN, E_dup2RN, E_dupN, E_popN, E_dup_x1NI, E_dup2NI, E_dup_x1NR, E_dup2NR, E_dup_x1NN, E_dup2NN, E_goto, E_if_eq, E_if_ne, E_if_lt, E_if_ge, E_if_gt, E_if_le, E_ic_eq, E_ic_ne, E_ic_lt, E_ic_ge, E_ic_gt, E_ic_le, E_ifnull, E_ifnullN, E_ifnonnull, E_ifnonnullN, E_get, E_gf, E_xv, E_n0, E_ns, E_putI, E_putR, E_putN, E_pf, E_st0, E_sts, E_iaload, E_caload, E_laload, E_aaload, E_alen, E_iast, E_cast, E_last, E_xI, E_xJ, E_xQ, E_xN, E_lk, E_lkn, E_s1, E_s1h, E_s1I, E_s1R, E_s1N, E_s1L, E_s2, E_s2h, E_s2L, E_s2I, E_s2R, E_s2N, E_a1, E_a0, E_aI, E_aR, E_aN, E_aL, Option.isSome_some, eq_self, true_and, and_true, true_or, or_true, ne_eq, not_false_eq_true, not_true_eq_false, reduceIte, reduceCtorEq, Nat.reduceAdd, Nat.reduceBEq, Nat.reduceEqDiff, Option.toList_some, Option.toList_none, List.cons_append, List.nil_append, h15, kSP]
    refine sp_callV hz (c_Clerk_understands l G) (ci := 6) (As := []) (rest := []) rfl w_SP_56 (by decide) hk1.2.1 rfl (Nat.le_of_ble_eq_true rfl) d_SP_send_11 ⟨A, sh, W, sP S, os, fr, Q, sN S, _, N, ws, rfl, hk1, up_s _ _ _, fun M2 ws' ce v ew ec ev hk2 hok2 hf2 => ?_⟩ rfl
    have eX0 : up X 2 [] 0 = sL S := by
      rw [up_n _ _ (by decide)]
      exact e0
    rw [eX0] at ew ec ev hk2
    rw [up_up] at hk2
    have h15 := hk2.2.2.2.1
    have f02 := hf1.trans hf2
    rw [eX0]
    refine sp_run hz _ _ e_SP_send_14 _ _ _ ?_
    by_cases hfl : flt v (sL S) ws' ce = 3
    · simp only [k_SP_send_14, E_nil, E_iconst, E_bipush, E_sipush, E_ldc, E_ldc2, E_lconst, E_null, E_iload_n, E_lload_n, E_aload_n, E_istore_n, E_lstore_n, E_astore_n, E_astoreN_n, E_iload, E_lload, E_aload, E_istore, E_lstore, E_astore, E_astoreN, E_ldi, E_ldl, E_lda, E_ldN, E_iinc, E_iadd, E_isub, E_imul, E_iand, E_ior, E_ixor, E_ishl, E_ishr, E_idiv, E_irem, E_ineg, E_ladd, E_lsub, E_land, E_lor, E_lcmp, E_lshl, E_lshr, E_lushr, E_i2l, E_l2i, E_i2c, E_dupI, E_popI, E_dup_x1II, E_dup2II, E_dup_x1IR, E_dup2IR, E_dup_x1IN, E_dup2IN, E_dupR, E_popR, E_dup_x1RI, E_dup2RI, E_dup_x1RR, E_dup2RR, E_dup_x1RN, E_dup2RN, E_dupN, E_popN, E_dup_x1NI, E_dup2NI, E_dup_x1NR, E_dup2NR, E_dup_x1NN, E_dup2NN, E_goto, E_if_eq, E_if_ne, E_if_lt, E_if_ge, E_if_gt, E_if_le, E_ic_eq, E_ic_ne, E_ic_lt, E_ic_ge, E_ic_gt, E_ic_le, E_ifnull, E_ifnullN, E_ifnonnull, E_ifnonnullN, E_get, E_gf, E_xv, E_n0, E_ns, E_putI, E_putR, E_putN, E_pf, E_st0, E_sts, E_iaload, E_caload, E_laload, E_aaload, E_alen, E_iast, E_cast, E_last, E_xI, E_xJ, E_xQ, E_xN, E_lk, E_lkn, E_s1, E_s1h, E_s1I, E_s1R, E_s1N, E_s1L, E_s2, E_s2h, E_s2L, E_s2I, E_s2R, E_s2N, E_a1, E_a0, E_aI, E_aR, E_aN, E_aL, Option.isSome_some, eq_self, true_and, and_true, true_or, or_true, ne_eq, not_false_eq_true, not_true_eq_false, reduceIte, reduceCtorEq, Nat.reduceAdd, Nat.reduceBEq, Nat.reduceEqDiff, Option.toList_some, Option.toList_none, List.cons_append, List.nil_append, decide_eq_true hfl, b2i, h15, kSP]
      refine ⟨fun h => absurd h (by decide), fun _ => ?_⟩
      obtain ⟨q1, q2, q3⟩ := flt_3 hfl
      rw [hfl] at hk2
      have eY0 : up X 2 (sv 3) 0 = sL S := by
        rw [up_n _ _ (by decide)]
        exact e0
      refine sp_callV hz (c_Clerk_obey l G) (ci := 6) (As := []) (rest := []) rfl w_SP_60 (by decide) hk2.2.1 rfl (Nat.le_of_ble_eq_true rfl) d_SP_send_21 ⟨A, sh, W, sP S, os, fr, Q, sN S, _, _, ws', sI S, rfl, hk2, hok2, ha, up_s _ _ _, q1, by rw [eY0]; exact q2, by rw [eY0]; exact q3, hit, fun M3 W3 pg3 os3 fr3 Q3 nn3 X3 N3 L3 h3 m3 a3 eo hk3 y0 y2 z0 z1 ha3 hf3 => ?_⟩ rfl
      rw [eY0] at eo y2
      refine tail M3 W3 pg3 os3 fr3 Q3 nn3 X3 N3 ws' L3 _ _ (Nat.le_refl _) (Nat.le_refl _) hk3 ha3 ?_ (f02.trans hf3)
      unfold snC
      dsimp only
      rw [← ew, ← ec, ← ev, if_pos hfl]
      have eo' : oby v (sL S) ws' ce (sI S) (sP S) (sN S) (sH S) (sM S) = (pg3, L3, nn3, h3, m3, a3) := by
        rw [← n0, ← n1]
        exact eo
      rw [eo', y2, z0, z1]
      rfl
    · simp only [k_SP_send_14, E_nil, E_iconst, E_bipush, E_sipush, E_ldc, E_ldc2, E_lconst, E_null, E_iload_n, E_lload_n, E_aload_n, E_istore_n, E_lstore_n, E_astore_n, E_astoreN_n, E_iload, E_lload, E_aload, E_istore, E_lstore, E_astore, E_astoreN, E_ldi, E_ldl, E_lda, E_ldN, E_iinc, E_iadd, E_isub, E_imul, E_iand, E_ior, E_ixor, E_ishl, E_ishr, E_idiv, E_irem, E_ineg, E_ladd, E_lsub, E_land, E_lor, E_lcmp, E_lshl, E_lshr, E_lushr, E_i2l, E_l2i, E_i2c, E_dupI, E_popI, E_dup_x1II, E_dup2II, E_dup_x1IR, E_dup2IR, E_dup_x1IN, E_dup2IN, E_dupR, E_popR, E_dup_x1RI, E_dup2RI, E_dup_x1RR, E_dup2RR, E_dup_x1RN, E_dup2RN, E_dupN, E_popN, E_dup_x1NI, E_dup2NI, E_dup_x1NR, E_dup2NR, E_dup_x1NN, E_dup2NN, E_goto, E_if_eq, E_if_ne, E_if_lt, E_if_ge, E_if_gt, E_if_le, E_ic_eq, E_ic_ne, E_ic_lt, E_ic_ge, E_ic_gt, E_ic_le, E_ifnull, E_ifnullN, E_ifnonnull, E_ifnonnullN, E_get, E_gf, E_xv, E_n0, E_ns, E_putI, E_putR, E_putN, E_pf, E_st0, E_sts, E_iaload, E_caload, E_laload, E_aaload, E_alen, E_iast, E_cast, E_last, E_xI, E_xJ, E_xQ, E_xN, E_lk, E_lkn, E_s1, E_s1h, E_s1I, E_s1R, E_s1N, E_s1L, E_s2, E_s2h, E_s2L, E_s2I, E_s2R, E_s2N, E_a1, E_a0, E_aI, E_aR, E_aN, E_aL, Option.isSome_some, eq_self, true_and, and_true, true_or, or_true, ne_eq, not_false_eq_true, not_true_eq_false, reduceIte, reduceCtorEq, Nat.reduceAdd, Nat.reduceBEq, Nat.reduceEqDiff, Option.toList_some, Option.toList_none, List.cons_append, List.nil_append, decide_eq_false hfl, b2i, Bool.false_eq_true]
      refine ⟨fun _ => ?_, fun h => h.elim⟩
      refine tail M2 W (sP S) os fr Q (sN S) _ _ ws' (sI S) _ _ (Nat.zero_le _) (Nat.zero_le _) hk2 ha ?_ f02
      unfold snC
      dsimp only
      rw [← ew, ← ec, ← ev, if_neg hfl, up_s]
      show ([], sv (flt v (sL S) ws' ce), sI S, sP S, sN S, sH S, sM S) = _
      rw [← n0, ← n1]
      rfl
