theorem ob_ne {M : sp_M} {a b ci cj : Nat} {fs gs : List Value} (h1 : M a = some (.inr (ci, fs))) (h2 : M b = some (.inr (cj, gs))) (hn : ¬ ci = cj) : a ≠ b := fun e => by
  rw [e, h2] at h1
  cases h1
  exact hn rfl
theorem oa_ne {M : sp_M} {a b ci : Nat} {fs : List Value} {y : ClassId × vp_A} (h1 : M a = some (.inr (ci, fs))) (h2 : M b = some (.inl y)) : a ≠ b := fun e => by
  rw [e, h2] at h1
  cases h1
theorem mem.nilk {G : sp_G} {M M' : sp_M} {m sa : Nat} {sh : Nat → Nat} {nn : NN} (h : ∀ W Q, mem G M m sa sh W (fun _ => 0) (fun _ => []) (fun _ => []) Q nn) (hk : ∀ q e, M q = some e → (∃ x, e = .inr (3, x)) ∨ (∃ x, e = .inr (2, x)) ∨ (∃ x, e = .inl x) → M' q = some e) : ∀ W Q, mem G M' m sa sh W (fun _ => 0) (fun _ => []) (fun _ => []) Q nn := fun W Q => by
  obtain ⟨a1, a2, a3, a4, a5, a6⟩ := h W Q
  refine ⟨hk _ _ a1 (Or.inl ⟨_, rfl⟩), hk _ _ a2 (Or.inr (Or.inr ⟨_, rfl⟩)), a3, fun i hi => ?_, a5, a6⟩
  obtain ⟨b1, b2, b3⟩ := a4 i hi
  refine ⟨⟨hk _ _ b1.1 (Or.inr (Or.inl ⟨_, rfl⟩)), ?_, ?_, b1.2.2.2⟩, b2, fun c hc => ?_⟩
  · intro k c hc
    cases hc
  · intro k c hc
    cases hc
  · rcases hc with hc | hc <;> cases hc
theorem nf_Clerk : ∀ j, j < 7 → defaultValue ((parseFieldDescriptor (F_Clerk j).2.2.1).getD .int) = vp_V [.null, .null, .null, .null, .null, .int 0, .int 0] j := by decide +kernel
theorem nf_Memory : ∀ j, j < 6 → defaultValue ((parseFieldDescriptor (F_Memory j).2.2.1).getD .int) = vp_V [.null, .int 0, .int 0, .int 0, .int 0, .int 0] j := by decide +kernel
def iA (r : List Nat) : Nat → Nat := fun j => r.getD j 0
def iW (lt lch at' ach kt kch dt dch : Nat) (r : List Nat) : Nat → Nat := fun q => if q = lt ∨ q = lch then 1 else if q = at' ∨ q = ach then 2 else if q = kt ∨ q = kch then 3 else if q = dt ∨ q = dch then 4 else if q ∈ r then 5 else 0
section IW
variable {lt lch at' ach kt kch dt dch q : Nat} {r : List Nat}
theorem iW_1 (h : q = lt ∨ q = lch) : iW lt lch at' ach kt kch dt dch r q = 1 := if_pos h
theorem iW_2 (h1 : q ≠ lt ∧ q ≠ lch) (h : q = at' ∨ q = ach) : iW lt lch at' ach kt kch dt dch r q = 2 := by
  unfold iW
  rw [if_neg (fun w => w.elim h1.1 h1.2), if_pos h]
theorem iW_3 (h1 : q ≠ lt ∧ q ≠ lch) (h2 : q ≠ at' ∧ q ≠ ach) (h : q = kt ∨ q = kch) : iW lt lch at' ach kt kch dt dch r q = 3 := by
  unfold iW
  rw [if_neg (fun w => w.elim h1.1 h1.2), if_neg (fun w => w.elim h2.1 h2.2), if_pos h]
theorem iW_4 (h1 : q ≠ lt ∧ q ≠ lch) (h2 : q ≠ at' ∧ q ≠ ach) (h3 : q ≠ kt ∧ q ≠ kch) (h : q = dt ∨ q = dch) : iW lt lch at' ach kt kch dt dch r q = 4 := by
  unfold iW
  rw [if_neg (fun w => w.elim h1.1 h1.2), if_neg (fun w => w.elim h2.1 h2.2), if_neg (fun w => w.elim h3.1 h3.2), if_pos h]
theorem iW_5 (h1 : q ≠ lt ∧ q ≠ lch) (h2 : q ≠ at' ∧ q ≠ ach) (h3 : q ≠ kt ∧ q ≠ kch) (h4 : q ≠ dt ∧ q ≠ dch) (h : q ∈ r) : iW lt lch at' ach kt kch dt dch r q = 5 := by
  unfold iW
  rw [if_neg (fun w => w.elim h1.1 h1.2), if_neg (fun w => w.elim h2.1 h2.2), if_neg (fun w => w.elim h3.1 h3.2), if_neg (fun w => w.elim h4.1 h4.2), if_pos h]
theorem iW_0 (h1 : q ≠ lt ∧ q ≠ lch) (h2 : q ≠ at' ∧ q ≠ ach) (h3 : q ≠ kt ∧ q ≠ kch) (h4 : q ≠ dt ∧ q ≠ dch) (h : q ∉ r) : iW lt lch at' ach kt kch dt dch r q = 0 := by
  unfold iW
  rw [if_neg (fun w => w.elim h1.1 h1.2), if_neg (fun w => w.elim h2.1 h2.2), if_neg (fun w => w.elim h3.1 h3.2), if_neg (fun w => w.elim h4.1 h4.2), if_neg h]
end IW
def initS : AS := ([], [], [], fun _ => 0, (6, 0, 0, 0, 0), 0, 0)
def T_SP_init (G : sp_G) : sp_T := fun av M Post => ∃ x, av = [.ref x] ∧ M x = some (.inr (7, [.null, .null, .null, .null])) ∧ ∀ M' A W, A 15 = x → cS G M' A W initS → (∀ q, q ≠ x → M q ≠ none → M' q = M q ∧ W q = 0) → Post none M'
set_option maxHeartbeats 4000000 in
set_option maxRecDepth 100000 in
theorem c_SP_init (l : Launch) (G : sp_G) : sp_Met l G y_SP_init b_SP_init 1 none { frames := 4, cells := 19, slots := 731, locals := 78 } (T_SP_init G) := by
  refine sp_entry (by decide) (fun av M Post h => ?_) (fun z M av Post hz hi hT => ?_)
  · obtain ⟨x, rfl, -⟩ := h
    exact Nat.le_of_ble_eq_true rfl
  · obtain ⟨x, rfl, h1, hp⟩ := hT
    have hG := sp_cA hz.E
    refine sp_run hz _ _ e_SP_init_0 _ _ _ ?_
    simp only [k_SP_init_0, E_nil, E_iconst, E_bipush, E_sipush, E_ldc, E_ldc2, E_lconst, E_null, E_iload_n, E_lload_n, E_aload_n, E_istore_n, E_lstore_n, E_astore_n, E_astoreN_n, E_iload, E_lload, E_aload, E_istore, E_lstore, E_astore, E_astoreN, E_ldi, E_ldl, E_lda, E_ldN, E_iinc, E_iadd, E_isub, E_imul, E_iand, E_ior, E_ixor, E_ishl, E_ishr, E_idiv, E_irem, E_ineg, E_ladd, E_lsub, E_land, E_lor, E_lcmp, E_lshl, E_lshr, E_lushr, E_i2l, E_l2i, E_i2c, E_dupI, E_popI, E_dup_x1II, E_dup2II, E_dup_x1IR, E_dup2IR, E_dup_x1IN, E_dup2IN, E_dupR, E_popR, E_dup_x1RI, E_dup2RI, E_dup_x1RR, E_dup2RR, E_dup_x1RN, E_dup2RN, E_dupN, E_popN, E_dup_x1NI, E_dup2NI, E_dup_x1NR, E_dup2NR, E_dup_x1NN, E_dup2NN, E_goto, E_if_eq, E_if_ne, E_if_lt, E_if_ge, E_if_gt, E_if_le, E_ic_eq, E_ic_ne, E_ic_lt, E_ic_ge, E_ic_gt, E_ic_le, E_ifnull, E_ifnullN, E_ifnonnull, E_ifnonnullN, E_get, E_gf, E_xv, E_n0, E_ns, E_putI, E_putR, E_putN, E_pf, E_st0, E_sts, E_iaload, E_caload, E_laload, E_aaload, E_alen, E_iast, E_cast, E_last, E_xI, E_xJ, E_xQ, E_xN, E_lk, E_lkn, E_s1, E_s1h, E_s1I, E_s1R, E_s1N, E_s1L, E_s2, E_s2h, E_s2L, E_s2I, E_s2R, E_s2N, E_a1, E_a0, E_aI, E_aR, E_aN, E_aL, Option.isSome_some, eq_self, true_and, and_true, true_or, or_true, ne_eq, not_false_eq_true, not_true_eq_false, reduceIte, reduceCtorEq, Nat.reduceAdd, Nat.reduceBEq, Nat.reduceEqDiff, Option.toList_some, Option.toList_none, List.cons_append, List.nil_append]
    refine sp_objI hz w_SP_1 (Nat.le_of_ble_eq_true rfl) (Nat.le_of_ble_eq_true rfl) d_SP_init_1 ?_
    refine sp_run hz _ _ e_SP_init_4 _ _ _ ?_
    simp only [k_SP_init_4, E_nil, E_iconst, E_bipush, E_sipush, E_ldc, E_ldc2, E_lconst, E_null, E_iload_n, E_lload_n, E_aload_n, E_istore_n, E_lstore_n, E_astore_n, E_astoreN_n, E_iload, E_lload, E_aload, E_istore, E_lstore, E_astore, E_astoreN, E_ldi, E_ldl, E_lda, E_ldN, E_iinc, E_iadd, E_isub, E_imul, E_iand, E_ior, E_ixor, E_ishl, E_ishr, E_idiv, E_irem, E_ineg, E_ladd, E_lsub, E_land, E_lor, E_lcmp, E_lshl, E_lshr, E_lushr, E_i2l, E_l2i, E_i2c, E_dupI, E_popI, E_dup_x1II, E_dup2II, E_dup_x1IR, E_dup2IR, E_dup_x1IN, E_dup2IN, E_dupR, E_popR, E_dup_x1RI, E_dup2RI, E_dup_x1RR, E_dup2RR, E_dup_x1RN, E_dup2RN, E_dupN, E_popN, E_dup_x1NI, E_dup2NI, E_dup_x1NR, E_dup2NR, E_dup_x1NN, E_dup2NN, E_goto, E_if_eq, E_if_ne, E_if_lt, E_if_ge, E_if_gt, E_if_le, E_ic_eq, E_ic_ne, E_ic_lt, E_ic_ge, E_ic_gt, E_ic_le, E_ifnull, E_ifnullN, E_ifnonnull, E_ifnonnullN, E_get, E_gf, E_xv, E_n0, E_ns, E_putI, E_putR, E_putN, E_pf, E_st0, E_sts, E_iaload, E_caload, E_laload, E_aaload, E_alen, E_iast, E_cast, E_last, E_xI, E_xJ, E_xQ, E_xN, E_lk, E_lkn, E_s1, E_s1h, E_s1I, E_s1R, E_s1N, E_s1L, E_s2, E_s2h, E_s2L, E_s2I, E_s2R, E_s2N, E_a1, E_a0, E_aI, E_aR, E_aN, E_aL, Option.isSome_some, eq_self, true_and, and_true, true_or, or_true, ne_eq, not_false_eq_true, not_true_eq_false, reduceIte, reduceCtorEq, Nat.reduceAdd, Nat.reduceBEq, Nat.reduceEqDiff, Option.toList_some, Option.toList_none, List.cons_append, List.nil_append]
    -- the line
    refine sp_new hz (ci := 0) (fs := [.null, .int 0]) rfl n_SP_7 nf_Text (Nat.le_of_ble_eq_true rfl) (Nat.le_of_ble_eq_true rfl) d_SP_init_5 (fun lt hlt => ?_)
    refine sp_run hz _ _ e_SP_init_8 _ _ _ ?_
    simp only [k_SP_init_8, E_nil, E_iconst, E_bipush, E_sipush, E_ldc, E_ldc2, E_lconst, E_null, E_iload_n, E_lload_n, E_aload_n, E_istore_n, E_lstore_n, E_astore_n, E_astoreN_n, E_iload, E_lload, E_aload, E_istore, E_lstore, E_astore, E_astoreN, E_ldi, E_ldl, E_lda, E_ldN, E_iinc, E_iadd, E_isub, E_imul, E_iand, E_ior, E_ixor, E_ishl, E_ishr, E_idiv, E_irem, E_ineg, E_ladd, E_lsub, E_land, E_lor, E_lcmp, E_lshl, E_lshr, E_lushr, E_i2l, E_l2i, E_i2c, E_dupI, E_popI, E_dup_x1II, E_dup2II, E_dup_x1IR, E_dup2IR, E_dup_x1IN, E_dup2IN, E_dupR, E_popR, E_dup_x1RI, E_dup2RI, E_dup_x1RR, E_dup2RR, E_dup_x1RN, E_dup2RN, E_dupN, E_popN, E_dup_x1NI, E_dup2NI, E_dup_x1NR, E_dup2NR, E_dup_x1NN, E_dup2NN, E_goto, E_if_eq, E_if_ne, E_if_lt, E_if_ge, E_if_gt, E_if_le, E_ic_eq, E_ic_ne, E_ic_lt, E_ic_ge, E_ic_gt, E_ic_le, E_ifnull, E_ifnullN, E_ifnonnull, E_ifnonnullN, E_get, E_gf, E_xv, E_n0, E_ns, E_putI, E_putR, E_putN, E_pf, E_st0, E_sts, E_iaload, E_caload, E_laload, E_aaload, E_alen, E_iast, E_cast, E_last, E_xI, E_xJ, E_xQ, E_xN, E_lk, E_lkn, E_s1, E_s1h, E_s1I, E_s1R, E_s1N, E_s1L, E_s2, E_s2h, E_s2L, E_s2I, E_s2R, E_s2N, E_a1, E_a0, E_aI, E_aR, E_aN, E_aL, Option.isSome_some, eq_self, true_and, and_true, true_or, or_true, ne_eq, not_false_eq_true, not_true_eq_false, reduceIte, reduceCtorEq, Nat.reduceAdd, Nat.reduceBEq, Nat.reduceEqDiff, Option.toList_some, Option.toList_none, List.cons_append, List.nil_append]
    refine sp_callI hz (c_Text_init l G 140) (b := lt) (As := [.int (nI 140)]) (rest := [.ref lt, .ref x]) w_SP_11 (by decide) rfl (Nat.le_of_ble_eq_true rfl) d_SP_init_12 ⟨lt, rfl, sp_u_s _ _ _, by decide, fun M1 lch hlch t1 o1 => ?_⟩ rfl
    have x1 : x ≠ lt := fun e => by rw [← e, h1] at hlt; cases hlt
    have x2 : lch ≠ lt := fun e => by rw [e, sp_u_s] at hlch; cases hlch
    rw [sp_u_n _ _ x2] at hlch
    have x3 : x ≠ lch := fun e => by rw [← e, h1] at hlch; cases hlch
    have g1 : M1 x = some (.inr (7, [.null, .null, .null, .null])) := by rw [o1 x x1 x3, sp_u_n _ _ x1, h1]
    refine sp_pFr hz (hi rfl) f_SP_14 g1 (Nat.le_of_ble_eq_true rfl) d_SP_init_15 ?_
    generalize hM2 : sp_u M1 x _ = M2
    have g2 : M2 x = some (.inr (7, [.ref lt, .null, .null, .null])) := by rw [← hM2, sp_u_s]; rfl
    have o2 : ∀ q, q ≠ x → M2 q = M1 q := fun q hq => by rw [← hM2, sp_u_n _ _ hq]
    have t2 : tx G M2 lt lch 140 [] := t1.keep (o2 lt (Ne.symm x1)) (o2 lch (Ne.symm x3))
    have b2 : ∀ q, M2 q = none → q ≠ x ∧ q ≠ lt ∧ q ≠ lch ∧ M q = none := fun q hq => by
      have n1 : q ≠ x := fun e => by rw [e, g2] at hq; cases hq
      have n2 : q ≠ lt := fun e => by rw [e, t2.1] at hq; cases hq
      have n3 : q ≠ lch := fun e => by
        obtain ⟨-, -, -, -, f, u5, -⟩ := t2
        rw [e, u5] at hq
        cases hq
      refine ⟨n1, n2, n3, ?_⟩
      rw [o2 q n1, o1 q n2 n3, sp_u_n _ _ n2] at hq
      exact hq
    have k2 : ∀ q e, q ≠ x → M q = some e → M2 q = some e := fun q e hq hm => by
      have n2 : q ≠ lt := fun e2 => by rw [e2, hlt] at hm; cases hm
      have n3 : q ≠ lch := fun e2 => by rw [e2, hlch] at hm; cases hm
      rw [o2 q hq, o1 q n2 n3, sp_u_n _ _ n2, hm]
    refine sp_run hz _ _ e_SP_init_18 _ _ _ ?_
    simp only [k_SP_init_18, E_nil, E_iconst, E_bipush, E_sipush, E_ldc, E_ldc2, E_lconst, E_null, E_iload_n, E_lload_n, E_aload_n, E_istore_n, E_lstore_n, E_astore_n, E_astoreN_n, E_iload, E_lload, E_aload, E_istore, E_lstore, E_astore, E_astoreN, E_ldi, E_ldl, E_lda, E_ldN, E_iinc, E_iadd, E_isub, E_imul, E_iand, E_ior, E_ixor, E_ishl, E_ishr, E_idiv, E_irem, E_ineg, E_ladd, E_lsub, E_land, E_lor, E_lcmp, E_lshl, E_lshr, E_lushr, E_i2l, E_l2i, E_i2c, E_dupI, E_popI, E_dup_x1II, E_dup2II, E_dup_x1IR, E_dup2IR, E_dup_x1IN, E_dup2IN, E_dupR, E_popR, E_dup_x1RI, E_dup2RI, E_dup_x1RR, E_dup2RR, E_dup_x1RN, E_dup2RN, E_dupN, E_popN, E_dup_x1NI, E_dup2NI, E_dup_x1NR, E_dup2NR, E_dup_x1NN, E_dup2NN, E_goto, E_if_eq, E_if_ne, E_if_lt, E_if_ge, E_if_gt, E_if_le, E_ic_eq, E_ic_ne, E_ic_lt, E_ic_ge, E_ic_gt, E_ic_le, E_ifnull, E_ifnullN, E_ifnonnull, E_ifnonnullN, E_get, E_gf, E_xv, E_n0, E_ns, E_putI, E_putR, E_putN, E_pf, E_st0, E_sts, E_iaload, E_caload, E_laload, E_aaload, E_alen, E_iast, E_cast, E_last, E_xI, E_xJ, E_xQ, E_xN, E_lk, E_lkn, E_s1, E_s1h, E_s1I, E_s1R, E_s1N, E_s1L, E_s2, E_s2h, E_s2L, E_s2I, E_s2R, E_s2N, E_a1, E_a0, E_aI, E_aR, E_aN, E_aL, Option.isSome_some, eq_self, true_and, and_true, true_or, or_true, ne_eq, not_false_eq_true, not_true_eq_false, reduceIte, reduceCtorEq, Nat.reduceAdd, Nat.reduceBEq, Nat.reduceEqDiff, Option.toList_some, Option.toList_none, List.cons_append, List.nil_append]
    -- the answer
    refine sp_new hz (ci := 0) (fs := [.null, .int 0]) rfl n_SP_7 nf_Text (Nat.le_of_ble_eq_true rfl) (Nat.le_of_ble_eq_true rfl) d_SP_init_19 (fun at' hat => ?_)
    refine sp_run hz _ _ e_SP_init_22 _ _ _ ?_
    simp only [k_SP_init_22, E_nil, E_iconst, E_bipush, E_sipush, E_ldc, E_ldc2, E_lconst, E_null, E_iload_n, E_lload_n, E_aload_n, E_istore_n, E_lstore_n, E_astore_n, E_astoreN_n, E_iload, E_lload, E_aload, E_istore, E_lstore, E_astore, E_astoreN, E_ldi, E_ldl, E_lda, E_ldN, E_iinc, E_iadd, E_isub, E_imul, E_iand, E_ior, E_ixor, E_ishl, E_ishr, E_idiv, E_irem, E_ineg, E_ladd, E_lsub, E_land, E_lor, E_lcmp, E_lshl, E_lshr, E_lushr, E_i2l, E_l2i, E_i2c, E_dupI, E_popI, E_dup_x1II, E_dup2II, E_dup_x1IR, E_dup2IR, E_dup_x1IN, E_dup2IN, E_dupR, E_popR, E_dup_x1RI, E_dup2RI, E_dup_x1RR, E_dup2RR, E_dup_x1RN, E_dup2RN, E_dupN, E_popN, E_dup_x1NI, E_dup2NI, E_dup_x1NR, E_dup2NR, E_dup_x1NN, E_dup2NN, E_goto, E_if_eq, E_if_ne, E_if_lt, E_if_ge, E_if_gt, E_if_le, E_ic_eq, E_ic_ne, E_ic_lt, E_ic_ge, E_ic_gt, E_ic_le, E_ifnull, E_ifnullN, E_ifnonnull, E_ifnonnullN, E_get, E_gf, E_xv, E_n0, E_ns, E_putI, E_putR, E_putN, E_pf, E_st0, E_sts, E_iaload, E_caload, E_laload, E_aaload, E_alen, E_iast, E_cast, E_last, E_xI, E_xJ, E_xQ, E_xN, E_lk, E_lkn, E_s1, E_s1h, E_s1I, E_s1R, E_s1N, E_s1L, E_s2, E_s2h, E_s2L, E_s2I, E_s2R, E_s2N, E_a1, E_a0, E_aI, E_aR, E_aN, E_aL, Option.isSome_some, eq_self, true_and, and_true, true_or, or_true, ne_eq, not_false_eq_true, not_true_eq_false, reduceIte, reduceCtorEq, Nat.reduceAdd, Nat.reduceBEq, Nat.reduceEqDiff, Option.toList_some, Option.toList_none, List.cons_append, List.nil_append]
    refine sp_callI hz (c_Text_init l G 300) (b := at') (As := [.int (nI 300)]) (rest := [.ref at', .ref x]) w_SP_11 (by decide) rfl (Nat.le_of_ble_eq_true rfl) d_SP_init_26 ⟨at', rfl, sp_u_s _ _ _, by decide, fun M3 ach hach t3 o3 => ?_⟩ rfl
    obtain ⟨y1, y2, y3, y4⟩ := b2 at' hat
    have y5 : ach ≠ at' := fun e => by rw [e, sp_u_s] at hach; cases hach
    rw [sp_u_n _ _ y5] at hach
    obtain ⟨y6, y7, y8, y9⟩ := b2 ach hach
    have k3 : ∀ q e, M2 q = some e → M3 q = some e := fun q e hm => by
      have n2 : q ≠ at' := fun e2 => by rw [e2, hat] at hm; cases hm
      have n3 : q ≠ ach := fun e2 => by rw [e2, hach] at hm; cases hm
      rw [o3 q n2 n3, sp_u_n _ _ n2, hm]
    refine sp_pFr hz (hi rfl) f_SP_20 (k3 _ _ g2) (Nat.le_of_ble_eq_true rfl) d_SP_init_29 ?_
    generalize hM4 : sp_u M3 x _ = M4
    have g4 : M4 x = some (.inr (7, [.ref lt, .ref at', .null, .null])) := by rw [← hM4, sp_u_s]; rfl
    have o4 : ∀ q, q ≠ x → M4 q = M3 q := fun q hq => by rw [← hM4, sp_u_n _ _ hq]
    have k4 : ∀ q e, q ≠ x → M2 q = some e → M4 q = some e := fun q e hq hm => by rw [o4 q hq]; exact k3 q e hm
    have ta4 : tx G M4 at' ach 300 [] := t3.keep (o4 at' y1) (o4 ach y6)
    have tk : ∀ {Ma Mb : sp_M} {t ch cap : Nat} {s : List Nat}, tx G Ma t ch cap s → (∀ q e, q ≠ x → Ma q = some e → Mb q = some e) → t ≠ x → ch ≠ x → tx G Mb t ch cap s := fun {Ma Mb t ch cap s} ht hk' n1 n2 => by
      have t0 := ht
      obtain ⟨u1, -, -, -, f, u5, -⟩ := ht
      exact t0.keep ((hk' _ _ n1 u1).trans u1.symm) ((hk' _ _ n2 u5).trans u5.symm)
    have tl4 : tx G M4 lt lch 140 [] := tk t2 k4 (Ne.symm x1) (Ne.symm x3)
    have b4 : ∀ q, M4 q = none → q ≠ x ∧ q ≠ at' ∧ q ≠ ach ∧ M2 q = none := fun q hq => by
      have n1 : q ≠ x := fun e => by rw [e, g4] at hq; cases hq
      have n2 : q ≠ at' := fun e => by rw [e, ta4.1] at hq; cases hq
      have n3 : q ≠ ach := fun e => by
        obtain ⟨-, -, -, -, f, u5, -⟩ := ta4
        rw [e, u5] at hq
        cases hq
      refine ⟨n1, n2, n3, ?_⟩
      rw [o4 q n1, o3 q n2 n3, sp_u_n _ _ n2] at hq
      exact hq
    refine sp_run hz _ _ e_SP_init_32 _ _ _ ?_
    simp only [k_SP_init_32, E_nil, E_iconst, E_bipush, E_sipush, E_ldc, E_ldc2, E_lconst, E_null, E_iload_n, E_lload_n, E_aload_n, E_istore_n, E_lstore_n, E_astore_n, E_astoreN_n, E_iload, E_lload, E_aload, E_istore, E_lstore, E_astore, E_astoreN, E_ldi, E_ldl, E_lda, E_ldN, E_iinc, E_iadd, E_isub, E_imul, E_iand, E_ior, E_ixor, E_ishl, E_ishr, E_idiv, E_irem, E_ineg, E_ladd, E_lsub, E_land, E_lor, E_lcmp, E_lshl, E_lshr, E_lushr, E_i2l, E_l2i, E_i2c, E_dupI, E_popI, E_dup_x1II, E_dup2II, E_dup_x1IR, E_dup2IR, E_dup_x1IN, E_dup2IN, E_dupR, E_popR, E_dup_x1RI, E_dup2RI, E_dup_x1RR, E_dup2RR, E_dup_x1RN, E_dup2RN, E_dupN, E_popN, E_dup_x1NI, E_dup2NI, E_dup_x1NR, E_dup2NR, E_dup_x1NN, E_dup2NN, E_goto, E_if_eq, E_if_ne, E_if_lt, E_if_ge, E_if_gt, E_if_le, E_ic_eq, E_ic_ne, E_ic_lt, E_ic_ge, E_ic_gt, E_ic_le, E_ifnull, E_ifnullN, E_ifnonnull, E_ifnonnullN, E_get, E_gf, E_xv, E_n0, E_ns, E_putI, E_putR, E_putN, E_pf, E_st0, E_sts, E_iaload, E_caload, E_laload, E_aaload, E_alen, E_iast, E_cast, E_last, E_xI, E_xJ, E_xQ, E_xN, E_lk, E_lkn, E_s1, E_s1h, E_s1I, E_s1R, E_s1N, E_s1L, E_s2, E_s2h, E_s2L, E_s2I, E_s2R, E_s2N, E_a1, E_a0, E_aI, E_aR, E_aN, E_aL, Option.isSome_some, eq_self, true_and, and_true, true_or, or_true, ne_eq, not_false_eq_true, not_true_eq_false, reduceIte, reduceCtorEq, Nat.reduceAdd, Nat.reduceBEq, Nat.reduceEqDiff, Option.toList_some, Option.toList_none, List.cons_append, List.nil_append]
    -- the memory
    refine sp_new hz (ci := 3) (fs := [.null, .int 0, .int 0, .int 0, .int 0, .int 0]) rfl n_SP_23 nf_Memory (Nat.le_of_ble_eq_true rfl) (Nat.le_of_ble_eq_true rfl) d_SP_init_33 (fun m hm => ?_)
    refine sp_run hz _ _ e_SP_init_36 _ _ _ ?_
    simp only [k_SP_init_36, E_nil, E_iconst, E_bipush, E_sipush, E_ldc, E_ldc2, E_lconst, E_null, E_iload_n, E_lload_n, E_aload_n, E_istore_n, E_lstore_n, E_astore_n, E_astoreN_n, E_iload, E_lload, E_aload, E_istore, E_lstore, E_astore, E_astoreN, E_ldi, E_ldl, E_lda, E_ldN, E_iinc, E_iadd, E_isub, E_imul, E_iand, E_ior, E_ixor, E_ishl, E_ishr, E_idiv, E_irem, E_ineg, E_ladd, E_lsub, E_land, E_lor, E_lcmp, E_lshl, E_lshr, E_lushr, E_i2l, E_l2i, E_i2c, E_dupI, E_popI, E_dup_x1II, E_dup2II, E_dup_x1IR, E_dup2IR, E_dup_x1IN, E_dup2IN, E_dupR, E_popR, E_dup_x1RI, E_dup2RI, E_dup_x1RR, E_dup2RR, E_dup_x1RN, E_dup2RN, E_dupN, E_popN, E_dup_x1NI, E_dup2NI, E_dup_x1NR, E_dup2NR, E_dup_x1NN, E_dup2NN, E_goto, E_if_eq, E_if_ne, E_if_lt, E_if_ge, E_if_gt, E_if_le, E_ic_eq, E_ic_ne, E_ic_lt, E_ic_ge, E_ic_gt, E_ic_le, E_ifnull, E_ifnullN, E_ifnonnull, E_ifnonnullN, E_get, E_gf, E_xv, E_n0, E_ns, E_putI, E_putR, E_putN, E_pf, E_st0, E_sts, E_iaload, E_caload, E_laload, E_aaload, E_alen, E_iast, E_cast, E_last, E_xI, E_xJ, E_xQ, E_xN, E_lk, E_lkn, E_s1, E_s1h, E_s1I, E_s1R, E_s1N, E_s1L, E_s2, E_s2h, E_s2L, E_s2I, E_s2R, E_s2N, E_a1, E_a0, E_aI, E_aR, E_aN, E_aL, Option.isSome_some, eq_self, true_and, and_true, true_or, or_true, ne_eq, not_false_eq_true, not_true_eq_false, reduceIte, reduceCtorEq, Nat.reduceAdd, Nat.reduceBEq, Nat.reduceEqDiff, Option.toList_some, Option.toList_none, List.cons_append, List.nil_append]
    refine sp_callI hz (c_Memory_init l G) (b := m) (As := []) (rest := [.ref m, .ref x]) w_SP_25 (by decide) rfl (Nat.le_of_ble_eq_true rfl) d_SP_init_37 ⟨m, rfl, sp_u_s _ _ _, fun M5 sa sh hmem hsaM o5 => ?_⟩ rfl
    obtain ⟨m1, m2, m3, m4⟩ := b4 m hm
    have hsm : sa ≠ m := fun e => by rw [e, sp_u_s] at hsaM; cases hsaM
    rw [sp_u_n _ _ hsm] at hsaM
    have hsa0 : ∀ q e, q ≠ x → M q = some e → q = sa → False := fun q e hq hme e2 => by
      have := k4 q e hq (k2 q e hq hme)
      rw [e2, hsaM] at this
      cases this
    have k5 : ∀ q e, M4 q = some e → M5 q = some e := fun q e hq => by
      have n1 : q ≠ m := fun e2 => by rw [e2, hm] at hq; cases hq
      rw [o5 q n1 (by rw [sp_u_n _ _ n1, hq]; exact fun h => by cases h), sp_u_n _ _ n1, hq]
    refine sp_pFr hz (hi rfl) f_SP_26 (k5 _ _ g4) (Nat.le_of_ble_eq_true rfl) d_SP_init_40 ?_
    generalize hM6 : sp_u M5 x _ = M6
    have g6 : M6 x = some (.inr (7, [.ref lt, .ref at', .ref m, .null])) := by rw [← hM6, sp_u_s]; rfl
    have o6 : ∀ q, q ≠ x → M6 q = M5 q := fun q hq => by rw [← hM6, sp_u_n _ _ hq]
    have k6 : ∀ q e, q ≠ x → M4 q = some e → M6 q = some e := fun q e hq hm => by rw [o6 q hq]; exact k5 q e hm
    have g5 := k5 _ _ g4
    have hmem6 := mem.nilk (M' := M6) hmem (fun q e hq hk' => by
      rw [o6 q (fun e2 => ?_)]
      · exact hq
      · rw [e2, g5] at hq
        rcases hk' with ⟨w, rfl⟩ | ⟨w, rfl⟩ | ⟨w, rfl⟩ <;> cases hq)
    have tl6 := tk tl4 k6 (Ne.symm x1) (Ne.symm x3)
    have ta6 := tk ta4 k6 y1 y6
    refine sp_run hz _ _ e_SP_init_43 _ _ _ ?_
    simp only [k_SP_init_43, E_nil, E_iconst, E_bipush, E_sipush, E_ldc, E_ldc2, E_lconst, E_null, E_iload_n, E_lload_n, E_aload_n, E_istore_n, E_lstore_n, E_astore_n, E_astoreN_n, E_iload, E_lload, E_aload, E_istore, E_lstore, E_astore, E_astoreN, E_ldi, E_ldl, E_lda, E_ldN, E_iinc, E_iadd, E_isub, E_imul, E_iand, E_ior, E_ixor, E_ishl, E_ishr, E_idiv, E_irem, E_ineg, E_ladd, E_lsub, E_land, E_lor, E_lcmp, E_lshl, E_lshr, E_lushr, E_i2l, E_l2i, E_i2c, E_dupI, E_popI, E_dup_x1II, E_dup2II, E_dup_x1IR, E_dup2IR, E_dup_x1IN, E_dup2IN, E_dupR, E_popR, E_dup_x1RI, E_dup2RI, E_dup_x1RR, E_dup2RR, E_dup_x1RN, E_dup2RN, E_dupN, E_popN, E_dup_x1NI, E_dup2NI, E_dup_x1NR, E_dup2NR, E_dup_x1NN, E_dup2NN, E_goto, E_if_eq, E_if_ne, E_if_lt, E_if_ge, E_if_gt, E_if_le, E_ic_eq, E_ic_ne, E_ic_lt, E_ic_ge, E_ic_gt, E_ic_le, E_ifnull, E_ifnullN, E_ifnonnull, E_ifnonnullN, E_get, E_gf, E_xv, E_n0, E_ns, E_putI, E_putR, E_putN, E_pf, E_st0, E_sts, E_iaload, E_caload, E_laload, E_aaload, E_alen, E_iast, E_cast, E_last, E_xI, E_xJ, E_xQ, E_xN, E_lk, E_lkn, E_s1, E_s1h, E_s1I, E_s1R, E_s1N, E_s1L, E_s2, E_s2h, E_s2L, E_s2I, E_s2R, E_s2N, E_a1, E_a0, E_aI, E_aR, E_aN, E_aL, Option.isSome_some, eq_self, true_and, and_true, true_or, or_true, ne_eq, not_false_eq_true, not_true_eq_false, reduceIte, reduceCtorEq, Nat.reduceAdd, Nat.reduceBEq, Nat.reduceEqDiff, Option.toList_some, Option.toList_none, List.cons_append, List.nil_append]
    -- the clerk
    refine sp_new hz (ci := 6) (fs := [.null, .null, .null, .null, .null, .int 0, .int 0]) rfl n_SP_18 nf_Clerk (Nat.le_of_ble_eq_true rfl) (Nat.le_of_ble_eq_true rfl) d_SP_init_44 (fun ck hck => ?_)
    have ckx : ck ≠ x := fun e => by rw [e, g6] at hck; cases hck
    have g6' : sp_u M6 ck (.inr (6, [.null, .null, .null, .null, .null, .int 0, .int 0])) x = some (.inr (7, [.ref lt, .ref at', .ref m, .null])) := (sp_u_n _ _ (Ne.symm ckx)).trans g6
    refine sp_run hz _ _ e_SP_init_47 _ _ _ ?_
    simp only [k_SP_init_47, E_nil, E_iconst, E_bipush, E_sipush, E_ldc, E_ldc2, E_lconst, E_null, E_iload_n, E_lload_n, E_aload_n, E_istore_n, E_lstore_n, E_astore_n, E_astoreN_n, E_iload, E_lload, E_aload, E_istore, E_lstore, E_astore, E_astoreN, E_ldi, E_ldl, E_lda, E_ldN, E_iinc, E_iadd, E_isub, E_imul, E_iand, E_ior, E_ixor, E_ishl, E_ishr, E_idiv, E_irem, E_ineg, E_ladd, E_lsub, E_land, E_lor, E_lcmp, E_lshl, E_lshr, E_lushr, E_i2l, E_l2i, E_i2c, E_dupI, E_popI, E_dup_x1II, E_dup2II, E_dup_x1IR, E_dup2IR, E_dup_x1IN, E_dup2IN, E_dupR, E_popR, E_dup_x1RI, E_dup2RI, E_dup_x1RR, E_dup2RR, E_dup_x1RN, E_dup2RN, E_dupN, E_popN, E_dup_x1NI, E_dup2NI, E_dup_x1NR, E_dup2NR, E_dup_x1NN, E_dup2NN, E_goto, E_if_eq, E_if_ne, E_if_lt, E_if_ge, E_if_gt, E_if_le, E_ic_eq, E_ic_ne, E_ic_lt, E_ic_ge, E_ic_gt, E_ic_le, E_ifnull, E_ifnullN, E_ifnonnull, E_ifnonnullN, E_get, E_gf, E_xv, E_n0, E_ns, E_putI, E_putR, E_putN, E_pf, E_st0, E_sts, E_iaload, E_caload, E_laload, E_aaload, E_alen, E_iast, E_cast, E_last, E_xI, E_xJ, E_xQ, E_xN, E_lk, E_lkn, E_s1, E_s1h, E_s1I, E_s1R, E_s1N, E_s1L, E_s2, E_s2h, E_s2L, E_s2I, E_s2R, E_s2N, E_a1, E_a0, E_aI, E_aR, E_aN, E_aL, Option.isSome_some, eq_self, true_and, and_true, true_or, or_true, ne_eq, not_false_eq_true, not_true_eq_false, reduceIte, reduceCtorEq, Nat.reduceAdd, Nat.reduceBEq, Nat.reduceEqDiff, Option.toList_some, Option.toList_none, List.cons_append, List.nil_append, g6']
    refine sp_callI hz (c_Clerk_init l G) (b := ck) (As := [.ref lt, .ref at', .ref m]) (rest := [.ref ck, .ref x]) w_SP_30 (by decide) rfl (Nat.le_of_ble_eq_true rfl) d_SP_init_60 ⟨ck, lt, at', m, rfl, sp_u_s _ _ _, fun M7 c wa la d kt kch dt dch e1 e2 e3 e4 e5 e6 e7 f1 f2 f3 f4 f5 f6 f7 f8 o7 => ?_⟩ rfl
    have k7 : ∀ q e, M6 q = some e → M7 q = some e := fun q e hq => by
      have n1 : q ≠ ck := fun e2 => by rw [e2, hck] at hq; cases hq
      rw [o7 q n1 (by rw [sp_u_n _ _ n1, hq]; exact fun h => by cases h), sp_u_n _ _ n1, hq]
    have g7 := k7 _ _ g6
    refine sp_pFr hz (hi rfl) f_SP_33 g7 (Nat.le_of_ble_eq_true rfl) d_SP_init_63 ?_
    generalize hM8 : sp_u M7 x _ = M8
    have g8 : M8 x = some (.inr (7, [.ref lt, .ref at', .ref m, .ref ck])) := by rw [← hM8, sp_u_s]; rfl
    have o8 : ∀ q, q ≠ x → M8 q = M7 q := fun q hq => by rw [← hM8, sp_u_n _ _ hq]
    have k8 : ∀ q e, q ≠ x → M6 q = some e → M8 q = some e := fun q e hq hm => by rw [o8 q hq]; exact k7 q e hm
    have tl8 := tk tl6 k8 (Ne.symm x1) (Ne.symm x3)
    have ta8 := tk ta6 k8 y1 y6
    have hmem8 := mem.nilk (M' := M8) hmem6 (fun q e hq hk' => by
      refine k8 q e (fun e2 => ?_) hq
      rw [e2, g6] at hq
      rcases hk' with ⟨w, rfl⟩ | ⟨w, rfl⟩ | ⟨w, rfl⟩ <;> cases hq)
    -- what is new was nowhere before
    have fr6 : ∀ {q : Nat}, sp_u M6 ck (.inr (6, [.null, .null, .null, .null, .null, .int 0, .int 0])) q = none → M6 q = none ∧ q ≠ ck := fun {q} h => by
      have hqd : q ≠ ck := fun e => by rw [e, sp_u_s] at h; cases h
      rw [sp_u_n _ _ hqd] at h
      exact ⟨h, hqd⟩
    have b6 : ∀ q, M6 q = none → M4 q = none := fun q hq => by
      cases hm' : M4 q with
      | none => rfl
      | some e =>
        by_cases hx : q = x
        · rw [hx, g6] at hq; cases hq
        · rw [k6 q e hx hm'] at hq; cases hq
    have old : ∀ q, M6 q = none → q ≠ x ∧ q ≠ lt ∧ q ≠ lch ∧ q ≠ at' ∧ q ≠ ach ∧ M q = none := fun q hq => by
      obtain ⟨p1, p2, p3, p4⟩ := b4 q (b6 q hq)
      obtain ⟨p5, p6, p7, p8⟩ := b2 q p4
      exact ⟨p1, p6, p7, p2, p3, p8⟩
    have fc := old c (fr6 f1).1
    have fwa := old wa (fr6 f2).1
    have fla := old la (fr6 f3).1
    have fd := old d (fr6 f4).1
    have fkt := old kt (fr6 f5).1
    have fkch := old kch (fr6 f6).1
    have fdt := old dt (fr6 f7).1
    have fdch := old dch (fr6 f8).1
    have fck := old ck hck
    obtain ⟨d1, d2, d3⟩ := e5
    obtain ⟨wf, wg, w1, w2, w3⟩ := e3
    have kt5 := d2.1
    obtain ⟨-, -, -, -, kf, kch5, -⟩ := d2
    have dt5 := d3.1
    obtain ⟨-, -, -, -, df, dch5, -⟩ := d3
    have wne : ∀ {q r : Nat} {n1 n2 : Nat} {f g : Nat → Int32}, M7 q = some (.inl (G.2.1 1, n1, .inl f)) → M7 r = some (.inl (G.2.1 0, n2, .inl g)) → q ≠ r := fun {q r n1 n2 f g} ha hb e => by
      rw [e, hb] at ha
      injection ha with ha
      injection ha with ha
      injection ha with ha
      exact hG ha.symm
    have mA := hmem8 (fun _ => 0) (fun _ => (0, 0, 0, 0, 0, [], []))
    have aA := mA.2.1
    have aM := mA.1
    have lift : ∀ q, q ≠ x → M8 q = M7 q := o8
    have ck7 := e1
    have ck8 : M8 ck = some (.inr (6, [.ref lt, .ref at', .ref m, .ref c, .ref d, .int 0, .int 0])) := (lift ck ckx).trans e1
    have c8 : M8 c = some (cmc G lt wa la 0 0 13) := (lift c fc.1).trans e2
    have d8 : M8 d = some (.inr (5, [.ref kt, .ref dt, .int (nI 0), .int (nI 2147483647)])) := (lift d fd.1).trans d1
    have kt8 := (lift kt fkt.1).trans kt5
    have dt8 := (lift dt fdt.1).trans dt5
    have kch8 := (lift kch fkch.1).trans kch5
    have dch8 := (lift dch fdch.1).trans dch5
    have wa8 := (lift wa fwa.1).trans w1
    have la8 := (lift la fla.1).trans w2
    have lt8 := tl8.1
    have at8 := ta8.1
    have lch8 : ∃ f : Nat → Int32, M8 lch = some (.inl (G.2.1 0, 140, .inl f)) := by
      obtain ⟨-, -, -, -, f, u5, -⟩ := tl8
      exact ⟨f, u5⟩
    have ach8 : ∃ f : Nat → Int32, M8 ach = some (.inl (G.2.1 0, 300, .inl f)) := by
      obtain ⟨-, -, -, -, f, u5, -⟩ := ta8
      exact ⟨f, u5⟩
    obtain ⟨lf, lch8⟩ := lch8
    obtain ⟨af, ach8⟩ := ach8
    have qne : ∀ {q r : Nat} {n1 n2 : Nat} {cA cB : ClassId} {f : Nat → Option Nat} {g : Nat → Int32}, M8 q = some (.inl (cA, n1, .inr (.inr (.inr (.inr f))))) → M8 r = some (.inl (cB, n2, .inl g)) → q ≠ r := fun {q r n1 n2 cA cB f g} ha hb e => by
      rw [e, hb] at ha
      have := congrArg (fun x => match x with | some (.inl (_, _, .inl _)) => true | _ => false) ha
      cases this
    have kd1 : tx G M8 kt kch 8 [] := ⟨kt8, Nat.zero_le _, by decide, (fun y hy => by cases hy), kf, kch8, fun i hi => absurd hi (Nat.not_lt_zero _)⟩
    have kd2 : tx G M8 dt dch 204 [] := ⟨dt8, Nat.zero_le _, by decide, (fun y hy => by cases hy), df, dch8, fun i hi => absurd hi (Nat.not_lt_zero _)⟩
    refine sp_vret hz d_SP_init_66 (Nat.le_refl _) (Nat.le_refl _) (hp M8 (iA [lt, lch, at', ach, m, sa, c, wa, la, d, kt, kch, dt, dch, ck, x]) (iW lt lch at' ach kt kch dt dch [sa, c, wa, la, d, ck, x]) rfl ⟨sh, fun _ => [], fun _ => [], fun _ => (0, 0, 0, 0, 0, [], []), fun _ => [], fun j => if j = 3 then 2147483647 else if j = 6 then 13 else 0, [], ⟨fun t ht => ?_, ck8, d8, g8, c8, ⟨wf, wg, wa8, la8, w3⟩, e4, by decide, hmem8 _ _, fun j hj h4 => ?_⟩, absR.nil (fun _ _ => rfl), rfl, rfl, rfl, rfl⟩ (fun q hq hm0 => ?_))
    · rcases ht with rfl | rfl | rfl | rfl
      · exact tl8
      · exact ta8
      · exact kd1
      · exact kd2
    · have cs : j = 0 ∨ j = 1 ∨ j = 2 ∨ j = 3 ∨ j = 5 ∨ j = 6 ∨ j = 7 ∨ j = 8 ∨ j = 9 ∨ j = 10 ∨ j = 11 ∨ j = 12 ∨ j = 13 ∨ j = 14 ∨ j = 15 := by omega
      have ktdch : kt ≠ dch := oa_ne kt8 dch8
      have kchdt : kch ≠ dt := Ne.symm (oa_ne dt8 kch8)
      have wk7 : wa ≠ kch ∧ wa ≠ dch ∧ la ≠ kch ∧ la ≠ dch := ⟨wne w1 kch5, wne w1 dch5, wne w2 kch5, wne w2 dch5⟩
      rcases cs with rfl | rfl | rfl | rfl | rfl | rfl | rfl | rfl | rfl | rfl | rfl | rfl | rfl | rfl | rfl
      · exact iW_1 (Or.inl rfl)
      · exact iW_1 (Or.inr rfl)
      · exact iW_2 ⟨y2, y3⟩ (Or.inl rfl)
      · exact iW_2 ⟨y7, y8⟩ (Or.inr rfl)
      · exact iW_5 ⟨Ne.symm (oa_ne lt8 aA), qne aA lch8⟩ ⟨Ne.symm (oa_ne at8 aA), qne aA ach8⟩ ⟨Ne.symm (oa_ne kt8 aA), qne aA kch8⟩ ⟨Ne.symm (oa_ne dt8 aA), qne aA dch8⟩ (by simp [iA])
      · exact iW_5 ⟨fc.2.1, fc.2.2.1⟩ ⟨fc.2.2.2.1, fc.2.2.2.2.1⟩ ⟨ob_ne c8 kt8 (by decide), oa_ne c8 kch8⟩ ⟨ob_ne c8 dt8 (by decide), oa_ne c8 dch8⟩ (by simp [iA])
      · exact iW_5 ⟨fwa.2.1, fwa.2.2.1⟩ ⟨fwa.2.2.2.1, fwa.2.2.2.2.1⟩ ⟨Ne.symm (oa_ne kt8 wa8), wk7.1⟩ ⟨Ne.symm (oa_ne dt8 wa8), wk7.2.1⟩ (by simp [iA])
      · exact iW_5 ⟨fla.2.1, fla.2.2.1⟩ ⟨fla.2.2.2.1, fla.2.2.2.2.1⟩ ⟨Ne.symm (oa_ne kt8 la8), wk7.2.2.1⟩ ⟨Ne.symm (oa_ne dt8 la8), wk7.2.2.2⟩ (by simp [iA])
      · exact iW_5 ⟨fd.2.1, fd.2.2.1⟩ ⟨fd.2.2.2.1, fd.2.2.2.2.1⟩ ⟨ob_ne d8 kt8 (by decide), oa_ne d8 kch8⟩ ⟨ob_ne d8 dt8 (by decide), oa_ne d8 dch8⟩ (by simp [iA])
      · exact iW_3 ⟨fkt.2.1, fkt.2.2.1⟩ ⟨fkt.2.2.2.1, fkt.2.2.2.2.1⟩ (Or.inl rfl)
      · exact iW_3 ⟨fkch.2.1, fkch.2.2.1⟩ ⟨fkch.2.2.2.1, fkch.2.2.2.2.1⟩ (Or.inr rfl)
      · exact iW_4 ⟨fdt.2.1, fdt.2.2.1⟩ ⟨fdt.2.2.2.1, fdt.2.2.2.2.1⟩ ⟨Ne.symm e6, Ne.symm kchdt⟩ (Or.inl rfl)
      · exact iW_4 ⟨fdch.2.1, fdch.2.2.1⟩ ⟨fdch.2.2.2.1, fdch.2.2.2.2.1⟩ ⟨Ne.symm ktdch, Ne.symm e7⟩ (Or.inr rfl)
      · exact iW_5 ⟨fck.2.1, fck.2.2.1⟩ ⟨fck.2.2.2.1, fck.2.2.2.2.1⟩ ⟨ob_ne ck8 kt8 (by decide), oa_ne ck8 kch8⟩ ⟨ob_ne ck8 dt8 (by decide), oa_ne ck8 dch8⟩ (by simp [iA])
      · exact iW_5 ⟨x1, x3⟩ ⟨Ne.symm y1, Ne.symm y6⟩ ⟨Ne.symm fkt.1, Ne.symm fkch.1⟩ ⟨Ne.symm fdt.1, Ne.symm fdch.1⟩ (by simp [iA])
    · cases hme : M q with
      | none => exact absurd hme hm0
      | some e =>
        have q2 := k2 q e hq hme
        have q4 := k4 q e hq q2
        have q6 := k6 q e hq q4
        have q8 := k8 q e hq q6
        refine ⟨q8, ?_⟩
        have nn : ∀ {r : Nat}, M r = none → q ≠ r := fun {r} hr e2 => by
          rw [e2, hr] at hme
          cases hme
        have nn6 : ∀ {r : Nat}, M6 r = none → q ≠ r := fun {r} hr e2 => by
          rw [e2, hr] at q6
          cases q6
        refine iW_0 ⟨nn hlt, nn hlch⟩ ⟨nn y4, nn y9⟩ ⟨nn fkt.2.2.2.2.2, nn fkch.2.2.2.2.2⟩ ⟨nn fdt.2.2.2.2.2, nn fdch.2.2.2.2.2⟩ ?_
        intro hmem'
        simp only [List.mem_cons, List.not_mem_nil, or_false] at hmem'
        rcases hmem' with h | h | h | h | h | h | h
        · exact hsa0 q e hq hme h
        · exact nn fc.2.2.2.2.2 h
        · exact nn fwa.2.2.2.2.2 h
        · exact nn fla.2.2.2.2.2 h
        · exact nn fd.2.2.2.2.2 h
        · exact nn fck.2.2.2.2.2 h
        · exact hq h
