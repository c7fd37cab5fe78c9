/-- a shelf: what is counted, the order os, the free ones fr -/
def shf (M : sp_M) (sh cc cp pg : Nat) (D : Nat → CD) (os fr : List Nat) : Prop := M sh = some (sg cc cp pg os.length fr[0]? os[0]? (pv os os.length)) ∧ dll M sh D os ∧ fll M sh D fr ∧ nd os ∧ nd fr ∧ ∀ (i x : Nat), os[i]? = some x → ni x fr
theorem shf.keep {M M' : sp_M} {sh cc cp pg : Nat} {D : Nat → CD} {os fr : List Nat} (h : shf M sh cc cp pg D os fr) (h0 : M' sh = M sh) (h1 : ∀ (i c : Nat), os[i]? = some c → M' c = M c) (h2 : ∀ (i c : Nat), fr[i]? = some c → M' c = M c) : shf M' sh cc cp pg D os fr := by
  obtain ⟨a1, a2, a3, a4, a5, a6⟩ := h
  exact ⟨h0.trans a1, a2.keep h1, a3.keep h2, a4, a5, a6⟩
theorem shf.os_ne {M : sp_M} {sh cc cp pg : Nat} {D : Nat → CD} {os fr : List Nat} (h : shf M sh cc cp pg D os fr) : ni sh os := fun i hi => ce_ne (h.2.1 i sh hi) h.1 rfl
theorem shf.fr_ne {M : sp_M} {sh cc cp pg : Nat} {D : Nat → CD} {os fr : List Nat} (h : shf M sh cc cp pg D os fr) : ni sh fr := fun i hi => by
  obtain ⟨nw, h1⟩ := h.2.2.1 i sh hi
  exact ce_ne h1 h.1 rfl
def T_Shelf_giveBack (G : sp_G) : sp_T := fun av M Post => ∃ sh c cc cp pg D os fr k, av = [.ref sh, .ref c] ∧ shf M sh cc cp pg D os fr ∧ os[k]? = some c ∧ os.length < 1000 ∧ ∀ M', shf M' sh cc cp pg D (os.eraseIdx k) (c :: fr) → (∀ q, q ≠ sh → ni q os → M' q = M q) → Post none M'
set_option maxHeartbeats 4000000 in
set_option maxRecDepth 100000 in
theorem c_Shelf_giveBack (l : Launch) (G : sp_G) : sp_Met l G y_Shelf_giveBack b_Shelf_giveBack 2 none { frames := 1, locals := 21 } (T_Shelf_giveBack G) := by
  refine sp_entry (by decide) (fun av M Post h => ?_) (fun z M av Post hz _ hT => ?_)
  · obtain ⟨sh, c, cc, cp, pg, D, os, fr, k, rfl, -⟩ := h
    exact Nat.le_of_ble_eq_true rfl
  · obtain ⟨sh, c, cc, cp, pg, D, os, fr, k, rfl, hs, hc, hlen, hp⟩ := hT
    have hs0 := hs
    have hoe := hs.os_ne
    obtain ⟨a1, a2, a3, a4, a5, a6⟩ := hs
    have hklt := (List.getElem?_eq_some_iff.mp hc).1
    refine sp_run hz _ _ e_Shelf_giveBack_0 _ _ _ ?_
    simp only [k_Shelf_giveBack_0, E_nil, E_iconst, E_bipush, E_sipush, E_ldc, E_ldc2, E_lconst, E_null, E_iload_n, E_lload_n, E_aload_n, E_istore_n, E_lstore_n, E_astore_n, E_astoreN_n, E_iload, E_lload, E_aload, E_istore, E_lstore, E_astore, E_astoreN, E_ldi, E_ldl, E_lda, E_ldN, E_iinc, E_iadd, E_isub, E_imul, E_iand, E_ior, E_ixor, E_ishl, E_ishr, E_idiv, E_irem, E_ineg, E_ladd, E_lsub, E_land, E_lor, E_lcmp, E_lshl, E_lshr, E_lushr, E_i2l, E_l2i, E_i2c, E_dupI, E_popI, E_dup_x1II, E_dup2II, E_dup_x1IR, E_dup2IR, E_dup_x1IN, E_dup2IN, E_dupR, E_popR, E_dup_x1RI, E_dup2RI, E_dup_x1RR, E_dup2RR, E_dup_x1RN, E_dup2RN, E_dupN, E_popN, E_dup_x1NI, E_dup2NI, E_dup_x1NR, E_dup2NR, E_dup_x1NN, E_dup2NN, E_goto, E_if_eq, E_if_ne, E_if_lt, E_if_ge, E_if_gt, E_if_le, E_ic_eq, E_ic_ne, E_ic_lt, E_ic_ge, E_ic_gt, E_ic_le, E_ifnull, E_ifnullN, E_ifnonnull, E_ifnonnullN, E_get, E_gf, E_xv, E_n0, E_ns, E_putI, E_putR, E_putN, E_pf, E_st0, E_sts, E_iaload, E_caload, E_laload, E_aaload, E_alen, E_iast, E_cast, E_last, E_xI, E_xJ, E_xQ, E_xN, E_lk, E_lkn, E_s1, E_s1h, E_s1I, E_s1R, E_s1N, E_s1L, E_s2, E_s2h, E_s2L, E_s2I, E_s2R, E_s2N, E_a1, E_a0, E_aI, E_aR, E_aN, E_aL, Option.isSome_some, eq_self, true_and, and_true, true_or, or_true, ne_eq, not_false_eq_true, not_true_eq_false, reduceIte, reduceCtorEq, Nat.reduceAdd, Nat.reduceBEq, Nat.reduceEqDiff, Option.toList_some, Option.toList_none, List.cons_append, List.nil_append]
    refine sp_callV hz (c_Shelf_unlink l G) (ci := 2) (As := [.ref c]) (rest := []) rfl w_Shelf_44 (by decide) a1 rfl (Nat.le_of_ble_eq_true rfl) d_Shelf_giveBack_2 ⟨sh, c, cc, cp, pg, os.length, fr[0]?, os, D, k, rfl, a1, a2, a4, hc, fun M1 g1 g2 g3 => ?_⟩ rfl
    have hcs : c ≠ sh := fun e => hoe k (by rw [← e]; exact hc)
    have hc1 : M1 c = some (ce sh (D c) (pv os k) os[k + 1]?) := (g3 c hcs (ni_self a4 hc)).trans (a2 k c hc)
    refine sp_run hz _ _ e_Shelf_giveBack_5 _ _ _ ?_
    have e1 : nI os.length - 1 = nI (os.eraseIdx k).length := by
      rw [er_len hc, show (1 : Int32) = nI 1 from rfl, pk_sub (by omega)]
    have fin : ∀ M2 : sp_M, M2 sh = some (sg cc cp pg (os.eraseIdx k).length (some c) (os.eraseIdx k)[0]? (pv (os.eraseIdx k) (os.eraseIdx k).length)) → M2 c = some (ce sh (D c) (pv os k) fr[0]?) → (∀ q, q ≠ sh → q ≠ c → M2 q = M1 q) → Post none M2 := by
      intro M2 f1 f2 f3
      refine hp M2 ⟨f1, ?_, ?_, nd_erase a4 k, nd_cons a5 (a6 k c hc), ?_⟩ ?_
      · exact g2.keep (fun i x hi => f3 x (fun e => ni_erase hoe k i (by rw [← e]; exact hi)) (fun e => ni_self a4 hc i (by rw [← e]; exact hi)))
      · intro i x hi
        cases i with
        | zero =>
          rw [List.getElem?_cons_zero] at hi
          cases hi
          rw [List.getElem?_cons_succ]
          exact ⟨_, f2⟩
        | succ i =>
          rw [List.getElem?_cons_succ] at hi ⊢
          obtain ⟨nw, hx⟩ := a3 i x hi
          have xs : x ≠ sh := ce_ne hx a1
          have xo : ni x os := fun j hj => a6 j x hj i hi
          exact ⟨nw, by rw [f3 x xs (fun e => xo k (by rw [e]; exact hc)), g3 x xs (ni_erase xo k)]; exact hx⟩
      · intro i x hi j hj
        cases j with
        | zero =>
          rw [List.getElem?_cons_zero] at hj
          cases hj
          exact ni_self a4 hc i hi
        | succ j =>
          rw [List.getElem?_cons_succ] at hj
          rw [er_get] at hi
          split at hi
          · exact a6 _ _ hi j hj
          · exact a6 _ _ hi j hj
      · intro q q1 q2
        rw [f3 q q1 (fun e => q2 k (by rw [e]; exact hc)), g3 q q1 (ni_erase q2 k)]
    cases hf : fr[0]? with
    | none =>
      rw [hf] at g1 fin
      simp only [k_Shelf_giveBack_5, E_nil, E_iconst, E_bipush, E_sipush, E_ldc, E_ldc2, E_lconst, E_null, E_iload_n, E_lload_n, E_aload_n, E_istore_n, E_lstore_n, E_astore_n, E_astoreN_n, E_iload, E_lload, E_aload, E_istore, E_lstore, E_astore, E_astoreN, E_ldi, E_ldl, E_lda, E_ldN, E_iinc, E_iadd, E_isub, E_imul, E_iand, E_ior, E_ixor, E_ishl, E_ishr, E_idiv, E_irem, E_ineg, E_ladd, E_lsub, E_land, E_lor, E_lcmp, E_lshl, E_lshr, E_lushr, E_i2l, E_l2i, E_i2c, E_dupI, E_popI, E_dup_x1II, E_dup2II, E_dup_x1IR, E_dup2IR, E_dup_x1IN, E_dup2IN, E_dupR, E_popR, E_dup_x1RI, E_dup2RI, E_dup_x1RR, E_dup2RR, E_dup_x1RN, E_dup2RN, E_dupN, E_popN, E_dup_x1NI, E_dup2NI, E_dup_x1NR, E_dup2NR, E_dup_x1NN, E_dup2NN, E_goto, E_if_eq, E_if_ne, E_if_lt, E_if_ge, E_if_gt, E_if_le, E_ic_eq, E_ic_ne, E_ic_lt, E_ic_ge, E_ic_gt, E_ic_le, E_ifnull, E_ifnullN, E_ifnonnull, E_ifnonnullN, E_get, E_gf, E_xv, E_n0, E_ns, E_putI, E_putR, E_putN, E_pf, E_st0, E_sts, E_iaload, E_caload, E_laload, E_aaload, E_alen, E_iast, E_cast, E_last, E_xI, E_xJ, E_xQ, E_xN, E_lk, E_lkn, E_s1, E_s1h, E_s1I, E_s1R, E_s1N, E_s1L, E_s2, E_s2h, E_s2L, E_s2I, E_s2R, E_s2N, E_a1, E_a0, E_aI, E_aR, E_aN, E_aL, Option.isSome_some, eq_self, true_and, and_true, true_or, or_true, ne_eq, not_false_eq_true, not_true_eq_false, reduceIte, reduceCtorEq, Nat.reduceAdd, Nat.reduceBEq, Nat.reduceEqDiff, Option.toList_some, Option.toList_none, List.cons_append, List.nil_append, g1, hc1, ce, ck_e, sg, sp_u_s, sp_u_n _ _ hcs, sp_u_n _ _ (Ne.symm hcs), rf_n, e1]
      refine sp_vret hz d_Shelf_giveBack_28 (Nat.le_refl _) (Nat.le_refl _) (fin _ ?_ ?_ ?_)
      · rw [sp_u_s]
        rfl
      · rw [sp_u_n _ _ hcs, sp_u_s]
        rfl
      · intro q q1 q2
        rw [sp_u_n _ _ q1, sp_u_n _ _ q2, sp_u_n _ _ q1]
    | some y =>
      rw [hf] at g1 fin
      simp only [k_Shelf_giveBack_5, E_nil, E_iconst, E_bipush, E_sipush, E_ldc, E_ldc2, E_lconst, E_null, E_iload_n, E_lload_n, E_aload_n, E_istore_n, E_lstore_n, E_astore_n, E_astoreN_n, E_iload, E_lload, E_aload, E_istore, E_lstore, E_astore, E_astoreN, E_ldi, E_ldl, E_lda, E_ldN, E_iinc, E_iadd, E_isub, E_imul, E_iand, E_ior, E_ixor, E_ishl, E_ishr, E_idiv, E_irem, E_ineg, E_ladd, E_lsub, E_land, E_lor, E_lcmp, E_lshl, E_lshr, E_lushr, E_i2l, E_l2i, E_i2c, E_dupI, E_popI, E_dup_x1II, E_dup2II, E_dup_x1IR, E_dup2IR, E_dup_x1IN, E_dup2IN, E_dupR, E_popR, E_dup_x1RI, E_dup2RI, E_dup_x1RR, E_dup2RR, E_dup_x1RN, E_dup2RN, E_dupN, E_popN, E_dup_x1NI, E_dup2NI, E_dup_x1NR, E_dup2NR, E_dup_x1NN, E_dup2NN, E_goto, E_if_eq, E_if_ne, E_if_lt, E_if_ge, E_if_gt, E_if_le, E_ic_eq, E_ic_ne, E_ic_lt, E_ic_ge, E_ic_gt, E_ic_le, E_ifnull, E_ifnullN, E_ifnonnull, E_ifnonnullN, E_get, E_gf, E_xv, E_n0, E_ns, E_putI, E_putR, E_putN, E_pf, E_st0, E_sts, E_iaload, E_caload, E_laload, E_aaload, E_alen, E_iast, E_cast, E_last, E_xI, E_xJ, E_xQ, E_xN, E_lk, E_lkn, E_s1, E_s1h, E_s1I, E_s1R, E_s1N, E_s1L, E_s2, E_s2h, E_s2L, E_s2I, E_s2R, E_s2N, E_a1, E_a0, E_aI, E_aR, E_aN, E_aL, Option.isSome_some, eq_self, true_and, and_true, true_or, or_true, ne_eq, not_false_eq_true, not_true_eq_false, reduceIte, reduceCtorEq, Nat.reduceAdd, Nat.reduceBEq, Nat.reduceEqDiff, Option.toList_some, Option.toList_none, List.cons_append, List.nil_append, g1, hc1, ce, ck_e, sg, sp_u_s, sp_u_n _ _ hcs, sp_u_n _ _ (Ne.symm hcs), rf_s, e1]
      refine sp_vret hz d_Shelf_giveBack_28 (Nat.le_refl _) (Nat.le_refl _) (fin _ ?_ ?_ ?_)
      · rw [sp_u_s]
        rfl
      · rw [sp_u_n _ _ hcs, sp_u_s]
        rfl
      · intro q q1 q2
        rw [sp_u_n _ _ q1, sp_u_n _ _ q2, sp_u_n _ _ q1]
def T_Shelf_bringToFront (G : sp_G) : sp_T := fun av M Post => ∃ sh c cc cp pg D os fr k, av = [.ref sh, .ref c] ∧ shf M sh cc cp pg D os fr ∧ os[k]? = some c ∧ ∀ M', shf M' sh cc cp pg D (c :: os.eraseIdx k) fr → (∀ q, q ≠ sh → ni q os → M' q = M q) → Post none M'
set_option maxHeartbeats 4000000 in
set_option maxRecDepth 100000 in
theorem c_Shelf_bringToFront (l : Launch) (G : sp_G) : sp_Met l G y_Shelf_bringToFront b_Shelf_bringToFront 2 none { frames := 1, locals := 21 } (T_Shelf_bringToFront G) := by
  refine sp_entry (by decide) (fun av M Post h => ?_) (fun z M av Post hz _ hT => ?_)
  · obtain ⟨sh, c, cc, cp, pg, D, os, fr, k, rfl, -⟩ := h
    exact Nat.le_of_ble_eq_true rfl
  · obtain ⟨sh, c, cc, cp, pg, D, os, fr, k, rfl, hs, hc, hp⟩ := hT
    have hoe := hs.os_ne
    obtain ⟨a1, a2, a3, a4, a5, a6⟩ := hs
    have hklt := (List.getElem?_eq_some_iff.mp hc).1
    have hcs : c ≠ sh := fun e => hoe k (by rw [← e]; exact hc)
    refine sp_run hz _ _ e_Shelf_bringToFront_0 _ _ _ ?_
    simp only [k_Shelf_bringToFront_0, E_nil, E_iconst, E_bipush, E_sipush, E_ldc, E_ldc2, E_lconst, E_null, E_iload_n, E_lload_n, E_aload_n, E_istore_n, E_lstore_n, E_astore_n, E_astoreN_n, E_iload, E_lload, E_aload, E_istore, E_lstore, E_astore, E_astoreN, E_ldi, E_ldl, E_lda, E_ldN, E_iinc, E_iadd, E_isub, E_imul, E_iand, E_ior, E_ixor, E_ishl, E_ishr, E_idiv, E_irem, E_ineg, E_ladd, E_lsub, E_land, E_lor, E_lcmp, E_lshl, E_lshr, E_lushr, E_i2l, E_l2i, E_i2c, E_dupI, E_popI, E_dup_x1II, E_dup2II, E_dup_x1IR, E_dup2IR, E_dup_x1IN, E_dup2IN, E_dupR, E_popR, E_dup_x1RI, E_dup2RI, E_dup_x1RR, E_dup2RR, E_dup_x1RN, E_dup2RN, E_dupN, E_popN, E_dup_x1NI, E_dup2NI, E_dup_x1NR, E_dup2NR, E_dup_x1NN, E_dup2NN, E_goto, E_if_eq, E_if_ne, E_if_lt, E_if_ge, E_if_gt, E_if_le, E_ic_eq, E_ic_ne, E_ic_lt, E_ic_ge, E_ic_gt, E_ic_le, E_ifnull, E_ifnullN, E_ifnonnull, E_ifnonnullN, E_get, E_gf, E_xv, E_n0, E_ns, E_putI, E_putR, E_putN, E_pf, E_st0, E_sts, E_iaload, E_caload, E_laload, E_aaload, E_alen, E_iast, E_cast, E_last, E_xI, E_xJ, E_xQ, E_xN, E_lk, E_lkn, E_s1, E_s1h, E_s1I, E_s1R, E_s1N, E_s1L, E_s2, E_s2h, E_s2L, E_s2I, E_s2R, E_s2N, E_a1, E_a0, E_aI, E_aR, E_aN, E_aL, Option.isSome_some, eq_self, true_and, and_true, true_or, or_true, ne_eq, not_false_eq_true, not_true_eq_false, reduceIte, reduceCtorEq, Nat.reduceAdd, Nat.reduceBEq, Nat.reduceEqDiff, Option.toList_some, Option.toList_none, List.cons_append, List.nil_append]
    refine sp_callV hz (c_Shelf_unlink l G) (ci := 2) (As := [.ref c]) (rest := []) rfl w_Shelf_44 (by decide) a1 rfl (Nat.le_of_ble_eq_true rfl) d_Shelf_bringToFront_2 ⟨sh, c, cc, cp, pg, os.length, fr[0]?, os, D, k, rfl, a1, a2, a4, hc, fun M1 g1 g2 g3 => ?_⟩ rfl
    have hc1 : M1 c = some (ce sh (D c) (pv os k) os[k + 1]?) := (g3 c hcs (ni_self a4 hc)).trans (a2 k c hc)
    refine sp_run hz _ _ e_Shelf_bringToFront_5 _ _ _ ?_
    simp only [k_Shelf_bringToFront_5, E_nil, E_iconst, E_bipush, E_sipush, E_ldc, E_ldc2, E_lconst, E_null, E_iload_n, E_lload_n, E_aload_n, E_istore_n, E_lstore_n, E_astore_n, E_astoreN_n, E_iload, E_lload, E_aload, E_istore, E_lstore, E_astore, E_astoreN, E_ldi, E_ldl, E_lda, E_ldN, E_iinc, E_iadd, E_isub, E_imul, E_iand, E_ior, E_ixor, E_ishl, E_ishr, E_idiv, E_irem, E_ineg, E_ladd, E_lsub, E_land, E_lor, E_lcmp, E_lshl, E_lshr, E_lushr, E_i2l, E_l2i, E_i2c, E_dupI, E_popI, E_dup_x1II, E_dup2II, E_dup_x1IR, E_dup2IR, E_dup_x1IN, E_dup2IN, E_dupR, E_popR, E_dup_x1RI, E_dup2RI, E_dup_x1RR, E_dup2RR, E_dup_x1RN, E_dup2RN, E_dupN, E_popN, E_dup_x1NI, E_dup2NI, E_dup_x1NR, E_dup2NR, E_dup_x1NN, E_dup2NN, E_goto, E_if_eq, E_if_ne, E_if_lt, E_if_ge, E_if_gt, E_if_le, E_ic_eq, E_ic_ne, E_ic_lt, E_ic_ge, E_ic_gt, E_ic_le, E_ifnull, E_ifnullN, E_ifnonnull, E_ifnonnullN, E_get, E_gf, E_xv, E_n0, E_ns, E_putI, E_putR, E_putN, E_pf, E_st0, E_sts, E_iaload, E_caload, E_laload, E_aaload, E_alen, E_iast, E_cast, E_last, E_xI, E_xJ, E_xQ, E_xN, E_lk, E_lkn, E_s1, E_s1h, E_s1I, E_s1R, E_s1N, E_s1L, E_s2, E_s2h, E_s2L, E_s2I, E_s2R, E_s2N, E_a1, E_a0, E_aI, E_aR, E_aN, E_aL, Option.isSome_some, eq_self, true_and, and_true, true_or, or_true, ne_eq, not_false_eq_true, not_true_eq_false, reduceIte, reduceCtorEq, Nat.reduceAdd, Nat.reduceBEq, Nat.reduceEqDiff, Option.toList_some, Option.toList_none, List.cons_append, List.nil_append]
    refine sp_callV hz (c_Shelf_linkFront l G) (ci := 2) (As := [.ref c]) (rest := []) rfl w_Shelf_40 (by decide) g1 rfl (Nat.le_of_ble_eq_true rfl) d_Shelf_bringToFront_7 ⟨sh, c, cc, cp, pg, os.length, fr[0]?, os.eraseIdx k, D, _, _, rfl, g1, g2, nd_erase a4 k, ni_self a4 hc, hc1, fun M2 f1 f2 f3 => ?_⟩ rfl
    have keep : ∀ q, q ≠ sh → ni q os → M2 q = M q := fun q q1 q2 => by
      rw [f3 q q1 (fun e => q2 k (by rw [e]; exact hc)) (fun h => ni_erase q2 k 0 h), g3 q q1 (ni_erase q2 k)]
    refine sp_vret hz d_Shelf_bringToFront_10 (Nat.le_refl _) (Nat.le_refl _) (hp M2 ⟨?_, f2, ?_, nd_cons (nd_erase a4 k) (ni_self a4 hc), a5, ?_⟩ keep)
    · rw [f1, List.getElem?_cons_zero, List.length_cons, er_len hc, show os.length - 1 + 1 = os.length by omega]
    · refine a3.keep (fun i x hi => keep x ?_ (fun j hj => a6 j x hj i hi))
      obtain ⟨nw, hx⟩ := a3 i x hi
      exact ce_ne hx a1
    · intro i x hi
      cases i with
      | zero =>
        rw [List.getElem?_cons_zero] at hi
        cases hi
        exact a6 k c hc
      | succ i =>
        rw [List.getElem?_cons_succ, er_get] at hi
        split at hi
        · exact a6 _ _ hi
        · exact a6 _ _ hi
def T_Shelf_take (G : sp_G) : sp_T := fun av M Post => ∃ sh cc cp pg D os fr, av = [.ref sh] ∧ shf M sh cc cp pg D os fr ∧ os.length < 1000 ∧ (fr = [] → Post (some .null) M) ∧ ∀ c r, fr = c :: r → ∀ M', shf M' sh cc cp pg D (c :: os) r → (∀ q, q ≠ sh → q ≠ c → ni q os → M' q = M q) → Post (some (.ref c)) M'
set_option maxHeartbeats 4000000 in
set_option maxRecDepth 100000 in
theorem c_Shelf_take (l : Launch) (G : sp_G) : sp_Met l G y_Shelf_take b_Shelf_take 2 (some (.object "SlabPantry$Chunk")) { frames := 1, locals := 21 } (T_Shelf_take G) := by
  refine sp_entry (by decide) (fun av M Post h => ?_) (fun z M av Post hz _ hT => ?_)
  · obtain ⟨sh, cc, cp, pg, D, os, fr, rfl, -⟩ := h
    exact Nat.le_of_ble_eq_true rfl
  · obtain ⟨sh, cc, cp, pg, D, os, fr, rfl, hs, hlen, hp0, hp⟩ := hT
    have hoe := hs.os_ne
    obtain ⟨a1, a2, a3, a4, a5, a6⟩ := hs
    refine sp_run hz _ _ e_Shelf_take_0 _ _ _ ?_
    cases fr with
    | nil =>
      simp only [k_Shelf_take_0, E_nil, E_iconst, E_bipush, E_sipush, E_ldc, E_ldc2, E_lconst, E_null, E_iload_n, E_lload_n, E_aload_n, E_istore_n, E_lstore_n, E_astore_n, E_astoreN_n, E_iload, E_lload, E_aload, E_istore, E_lstore, E_astore, E_astoreN, E_ldi, E_ldl, E_lda, E_ldN, E_iinc, E_iadd, E_isub, E_imul, E_iand, E_ior, E_ixor, E_ishl, E_ishr, E_idiv, E_irem, E_ineg, E_ladd, E_lsub, E_land, E_lor, E_lcmp, E_lshl, E_lshr, E_lushr, E_i2l, E_l2i, E_i2c, E_dupI, E_popI, E_dup_x1II, E_dup2II, E_dup_x1IR, E_dup2IR, E_dup_x1IN, E_dup2IN, E_dupR, E_popR, E_dup_x1RI, E_dup2RI, E_dup_x1RR, E_dup2RR, E_dup_x1RN, E_dup2RN, E_dupN, E_popN, E_dup_x1NI, E_dup2NI, E_dup_x1NR, E_dup2NR, E_dup_x1NN, E_dup2NN, E_goto, E_if_eq, E_if_ne, E_if_lt, E_if_ge, E_if_gt, E_if_le, E_ic_eq, E_ic_ne, E_ic_lt, E_ic_ge, E_ic_gt, E_ic_le, E_ifnull, E_ifnullN, E_ifnonnull, E_ifnonnullN, E_get, E_gf, E_xv, E_n0, E_ns, E_putI, E_putR, E_putN, E_pf, E_st0, E_sts, E_iaload, E_caload, E_laload, E_aaload, E_alen, E_iast, E_cast, E_last, E_xI, E_xJ, E_xQ, E_xN, E_lk, E_lkn, E_s1, E_s1h, E_s1I, E_s1R, E_s1N, E_s1L, E_s2, E_s2h, E_s2L, E_s2I, E_s2R, E_s2N, E_a1, E_a0, E_aI, E_aR, E_aN, E_aL, Option.isSome_some, eq_self, true_and, and_true, true_or, or_true, ne_eq, not_false_eq_true, not_true_eq_false, reduceIte, reduceCtorEq, Nat.reduceAdd, Nat.reduceBEq, Nat.reduceEqDiff, Option.toList_some, Option.toList_none, List.cons_append, List.nil_append, a1, sg, List.getElem?_nil, rf_n]
      refine sp_run hz _ _ e_Shelf_take_32 _ _ _ ?_
      simp only [k_Shelf_take_32, E_nil, E_iconst, E_bipush, E_sipush, E_ldc, E_ldc2, E_lconst, E_null, E_iload_n, E_lload_n, E_aload_n, E_istore_n, E_lstore_n, E_astore_n, E_astoreN_n, E_iload, E_lload, E_aload, E_istore, E_lstore, E_astore, E_astoreN, E_ldi, E_ldl, E_lda, E_ldN, E_iinc, E_iadd, E_isub, E_imul, E_iand, E_ior, E_ixor, E_ishl, E_ishr, E_idiv, E_irem, E_ineg, E_ladd, E_lsub, E_land, E_lor, E_lcmp, E_lshl, E_lshr, E_lushr, E_i2l, E_l2i, E_i2c, E_dupI, E_popI, E_dup_x1II, E_dup2II, E_dup_x1IR, E_dup2IR, E_dup_x1IN, E_dup2IN, E_dupR, E_popR, E_dup_x1RI, E_dup2RI, E_dup_x1RR, E_dup2RR, E_dup_x1RN, E_dup2RN, E_dupN, E_popN, E_dup_x1NI, E_dup2NI, E_dup_x1NR, E_dup2NR, E_dup_x1NN, E_dup2NN, E_goto, E_if_eq, E_if_ne, E_if_lt, E_if_ge, E_if_gt, E_if_le, E_ic_eq, E_ic_ne, E_ic_lt, E_ic_ge, E_ic_gt, E_ic_le, E_ifnull, E_ifnullN, E_ifnonnull, E_ifnonnullN, E_get, E_gf, E_xv, E_n0, E_ns, E_putI, E_putR, E_putN, E_pf, E_st0, E_sts, E_iaload, E_caload, E_laload, E_aaload, E_alen, E_iast, E_cast, E_last, E_xI, E_xJ, E_xQ, E_xN, E_lk, E_lkn, E_s1, E_s1h, E_s1I, E_s1R, E_s1N, E_s1L, E_s2, E_s2h, E_s2L, E_s2I, E_s2R, E_s2N, E_a1, E_a0, E_aI, E_aR, E_aN, E_aL, Option.isSome_some, eq_self, true_and, and_true, true_or, or_true, ne_eq, not_false_eq_true, not_true_eq_false, reduceIte, reduceCtorEq, Nat.reduceAdd, Nat.reduceBEq, Nat.reduceEqDiff, Option.toList_some, Option.toList_none, List.cons_append, List.nil_append]
      exact sp_aret (r := none) hz d_Shelf_take_33 (Nat.le_refl _) (Nat.le_refl _) (hp0 rfl)
    | cons c r =>
      obtain ⟨nw, hc⟩ := a3 0 c rfl
      have hcs := ce_ne hc a1
      have hco : ni c os := fun j hj => a6 j c hj 0 rfl
      rw [List.getElem?_cons_succ] at hc
      have tail : ∀ M1 : sp_M, M1 sh = some (sg cc cp pg (os.length + 1) r[0]? os[0]? (pv os os.length)) → (∀ q, q ≠ sh → M1 q = M q) → sp_W z G M (sp_Q z G M Post 0 0) 2 0 0 29 [(1, .ref c), (0, .ref sh)] [.ref c, .ref sh] M1 := by
        intro M1 g1 g3
        refine sp_callV hz (c_Shelf_linkFront l G) (ci := 2) (As := [.ref c]) (rest := []) rfl w_Shelf_40 (by decide) g1 rfl (Nat.le_of_ble_eq_true rfl) d_Shelf_take_29 ⟨sh, c, cc, cp, pg, os.length + 1, r[0]?, os, D, nw, r[0]?, rfl, g1, a2.keep (fun i x hi => g3 x (fun e => hoe i (by rw [← e]; exact hi))), a4, hco, (g3 c hcs).trans hc, fun M2 f1 f2 f3 => ?_⟩ rfl
        refine sp_run hz _ _ e_Shelf_take_32 _ _ _ ?_
        simp only [k_Shelf_take_32, E_nil, E_iconst, E_bipush, E_sipush, E_ldc, E_ldc2, E_lconst, E_null, E_iload_n, E_lload_n, E_aload_n, E_istore_n, E_lstore_n, E_astore_n, E_astoreN_n, E_iload, E_lload, E_aload, E_istore, E_lstore, E_astore, E_astoreN, E_ldi, E_ldl, E_lda, E_ldN, E_iinc, E_iadd, E_isub, E_imul, E_iand, E_ior, E_ixor, E_ishl, E_ishr, E_idiv, E_irem, E_ineg, E_ladd, E_lsub, E_land, E_lor, E_lcmp, E_lshl, E_lshr, E_lushr, E_i2l, E_l2i, E_i2c, E_dupI, E_popI, E_dup_x1II, E_dup2II, E_dup_x1IR, E_dup2IR, E_dup_x1IN, E_dup2IN, E_dupR, E_popR, E_dup_x1RI, E_dup2RI, E_dup_x1RR, E_dup2RR, E_dup_x1RN, E_dup2RN, E_dupN, E_popN, E_dup_x1NI, E_dup2NI, E_dup_x1NR, E_dup2NR, E_dup_x1NN, E_dup2NN, E_goto, E_if_eq, E_if_ne, E_if_lt, E_if_ge, E_if_gt, E_if_le, E_ic_eq, E_ic_ne, E_ic_lt, E_ic_ge, E_ic_gt, E_ic_le, E_ifnull, E_ifnullN, E_ifnonnull, E_ifnonnullN, E_get, E_gf, E_xv, E_n0, E_ns, E_putI, E_putR, E_putN, E_pf, E_st0, E_sts, E_iaload, E_caload, E_laload, E_aaload, E_alen, E_iast, E_cast, E_last, E_xI, E_xJ, E_xQ, E_xN, E_lk, E_lkn, E_s1, E_s1h, E_s1I, E_s1R, E_s1N, E_s1L, E_s2, E_s2h, E_s2L, E_s2I, E_s2R, E_s2N, E_a1, E_a0, E_aI, E_aR, E_aN, E_aL, Option.isSome_some, eq_self, true_and, and_true, true_or, or_true, ne_eq, not_false_eq_true, not_true_eq_false, reduceIte, reduceCtorEq, Nat.reduceAdd, Nat.reduceBEq, Nat.reduceEqDiff, Option.toList_some, Option.toList_none, List.cons_append, List.nil_append]
        refine sp_aret (r := some c) hz d_Shelf_take_33 (Nat.le_refl _) (Nat.le_refl _) (hp c r rfl M2 ⟨f1, f2, ?_, nd_cons a4 hco, ?_, ?_⟩ ?_)
        · intro i x hi
          obtain ⟨nw2, hx⟩ := a3 (i + 1) x hi
          have xs := ce_ne hx a1
          have xc : x ≠ c := fun e => by
            have := a5 (i + 1) 0 x hi (by rw [e]; rfl)
            omega
          have xo : ni x os := fun j hj => a6 j x hj (i + 1) hi
          refine ⟨nw2, ?_⟩
          rw [f3 x xs xc (xo 0), g3 x xs]
          exact hx
        · intro i j x hi hj
          have := a5 (i + 1) (j + 1) x hi hj
          omega
        · intro i x hi j hj
          cases i with
          | zero =>
            rw [List.getElem?_cons_zero] at hi
            cases hi
            have := a5 0 (j + 1) c rfl hj
            omega
          | succ i =>
            rw [List.getElem?_cons_succ] at hi
            exact a6 i x hi (j + 1) hj
        · intro q q1 q2 q3
          rw [f3 q q1 q2 (q3 0), g3 q q1]
      cases hr : r[0]? with
      | none =>
        rw [hr] at hc tail
        simp only [k_Shelf_take_0, E_nil, E_iconst, E_bipush, E_sipush, E_ldc, E_ldc2, E_lconst, E_null, E_iload_n, E_lload_n, E_aload_n, E_istore_n, E_lstore_n, E_astore_n, E_astoreN_n, E_iload, E_lload, E_aload, E_istore, E_lstore, E_astore, E_astoreN, E_ldi, E_ldl, E_lda, E_ldN, E_iinc, E_iadd, E_isub, E_imul, E_iand, E_ior, E_ixor, E_ishl, E_ishr, E_idiv, E_irem, E_ineg, E_ladd, E_lsub, E_land, E_lor, E_lcmp, E_lshl, E_lshr, E_lushr, E_i2l, E_l2i, E_i2c, E_dupI, E_popI, E_dup_x1II, E_dup2II, E_dup_x1IR, E_dup2IR, E_dup_x1IN, E_dup2IN, E_dupR, E_popR, E_dup_x1RI, E_dup2RI, E_dup_x1RR, E_dup2RR, E_dup_x1RN, E_dup2RN, E_dupN, E_popN, E_dup_x1NI, E_dup2NI, E_dup_x1NR, E_dup2NR, E_dup_x1NN, E_dup2NN, E_goto, E_if_eq, E_if_ne, E_if_lt, E_if_ge, E_if_gt, E_if_le, E_ic_eq, E_ic_ne, E_ic_lt, E_ic_ge, E_ic_gt, E_ic_le, E_ifnull, E_ifnullN, E_ifnonnull, E_ifnonnullN, E_get, E_gf, E_xv, E_n0, E_ns, E_putI, E_putR, E_putN, E_pf, E_st0, E_sts, E_iaload, E_caload, E_laload, E_aaload, E_alen, E_iast, E_cast, E_last, E_xI, E_xJ, E_xQ, E_xN, E_lk, E_lkn, E_s1, E_s1h, E_s1I, E_s1R, E_s1N, E_s1L, E_s2, E_s2h, E_s2L, E_s2I, E_s2R, E_s2N, E_a1, E_a0, E_aI, E_aR, E_aN, E_aL, Option.isSome_some, eq_self, true_and, and_true, true_or, or_true, ne_eq, not_false_eq_true, not_true_eq_false, reduceIte, reduceCtorEq, Nat.reduceAdd, Nat.reduceBEq, Nat.reduceEqDiff, Option.toList_some, Option.toList_none, List.cons_append, List.nil_append, a1, hc, sg, ce, ck_e, sp_u_s, sp_u_n _ _ hcs, List.getElem?_cons_zero, rf_s, rf_n, nI_1]
        refine tail _ ?_ ?_
        · rw [sp_u_s]
          rfl
        · intro q q1
          rw [sp_u_n _ _ q1, sp_u_n _ _ q1]
      | some y =>
        rw [hr] at hc tail
        simp only [k_Shelf_take_0, E_nil, E_iconst, E_bipush, E_sipush, E_ldc, E_ldc2, E_lconst, E_null, E_iload_n, E_lload_n, E_aload_n, E_istore_n, E_lstore_n, E_astore_n, E_astoreN_n, E_iload, E_lload, E_aload, E_istore, E_lstore, E_astore, E_astoreN, E_ldi, E_ldl, E_lda, E_ldN, E_iinc, E_iadd, E_isub, E_imul, E_iand, E_ior, E_ixor, E_ishl, E_ishr, E_idiv, E_irem, E_ineg, E_ladd, E_lsub, E_land, E_lor, E_lcmp, E_lshl, E_lshr, E_lushr, E_i2l, E_l2i, E_i2c, E_dupI, E_popI, E_dup_x1II, E_dup2II, E_dup_x1IR, E_dup2IR, E_dup_x1IN, E_dup2IN, E_dupR, E_popR, E_dup_x1RI, E_dup2RI, E_dup_x1RR, E_dup2RR, E_dup_x1RN, E_dup2RN, E_dupN, E_popN, E_dup_x1NI, E_dup2NI, E_dup_x1NR, E_dup2NR, E_dup_x1NN, E_dup2NN, E_goto, E_if_eq, E_if_ne, E_if_lt, E_if_ge, E_if_gt, E_if_le, E_ic_eq, E_ic_ne, E_ic_lt, E_ic_ge, E_ic_gt, E_ic_le, E_ifnull, E_ifnullN, E_ifnonnull, E_ifnonnullN, E_get, E_gf, E_xv, E_n0, E_ns, E_putI, E_putR, E_putN, E_pf, E_st0, E_sts, E_iaload, E_caload, E_laload, E_aaload, E_alen, E_iast, E_cast, E_last, E_xI, E_xJ, E_xQ, E_xN, E_lk, E_lkn, E_s1, E_s1h, E_s1I, E_s1R, E_s1N, E_s1L, E_s2, E_s2h, E_s2L, E_s2I, E_s2R, E_s2N, E_a1, E_a0, E_aI, E_aR, E_aN, E_aL, Option.isSome_some, eq_self, true_and, and_true, true_or, or_true, ne_eq, not_false_eq_true, not_true_eq_false, reduceIte, reduceCtorEq, Nat.reduceAdd, Nat.reduceBEq, Nat.reduceEqDiff, Option.toList_some, Option.toList_none, List.cons_append, List.nil_append, a1, hc, sg, ce, ck_e, sp_u_s, sp_u_n _ _ hcs, List.getElem?_cons_zero, rf_s, rf_n, nI_1]
        refine tail _ ?_ ?_
        · rw [sp_u_s]
          rfl
        · intro q q1
          rw [sp_u_n _ _ q1, sp_u_n _ _ q1]
