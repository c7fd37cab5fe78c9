/-! chains of chunks, by places in a list -/
abbrev CD : Type := Nat × Nat × Nat × Nat × Nat
def ce (sh : Nat) (d : CD) (nw ol : Option Nat) : va_E := ck_e sh d.1 d.2.1 d.2.2.1 nw ol d.2.2.2.1 d.2.2.2.2
def pv (os : List Nat) (i : Nat) : Option Nat := match i with
  | 0 => none
  | j + 1 => os[j]?
theorem pv_0 (os : List Nat) : pv os 0 = none := rfl
theorem pv_s (os : List Nat) (j : Nat) : pv os (j + 1) = os[j]? := rfl
def nd (os : List Nat) : Prop := ∀ (i j x : Nat), os[i]? = some x → os[j]? = some x → i = j
def ni (x : Nat) (os : List Nat) : Prop := ∀ i : Nat, os[i]? ≠ some x
/-- the order: each chunk knows the newer and the older one -/
def dll (M : sp_M) (sh : Nat) (D : Nat → CD) (os : List Nat) : Prop := ∀ (i c : Nat), os[i]? = some c → M c = some (ce sh (D c) (pv os i) os[i + 1]?)
/-- the free ones: each knows the next -/
def fll (M : sp_M) (sh : Nat) (D : Nat → CD) (fr : List Nat) : Prop := ∀ (i c : Nat), fr[i]? = some c → ∃ nw, M c = some (ce sh (D c) nw fr[i + 1]?)
theorem dll.keep {M M' : sp_M} {sh : Nat} {D : Nat → CD} {os : List Nat} (h : dll M sh D os) (hk : ∀ (i c : Nat), os[i]? = some c → M' c = M c) : dll M' sh D os := fun i c hi => (hk i c hi).trans (h i c hi)
theorem fll.keep {M M' : sp_M} {sh : Nat} {D : Nat → CD} {fr : List Nat} (h : fll M sh D fr) (hk : ∀ (i c : Nat), fr[i]? = some c → M' c = M c) : fll M' sh D fr := fun i c hi => by
  obtain ⟨nw, h1⟩ := h i c hi
  exact ⟨nw, (hk i c hi).trans h1⟩
theorem nd_cons {c : Nat} {os : List Nat} (h : nd os) (hc : ni c os) : nd (c :: os) := by
  intro i j x hi hj
  cases i with
  | zero =>
    cases j with
    | zero => rfl
    | succ j =>
      rw [List.getElem?_cons_zero] at hi
      rw [List.getElem?_cons_succ] at hj
      cases hi
      exact absurd hj (hc j)
  | succ i =>
    cases j with
    | zero =>
      rw [List.getElem?_cons_zero] at hj
      rw [List.getElem?_cons_succ] at hi
      cases hj
      exact absurd hi (hc i)
    | succ j =>
      rw [List.getElem?_cons_succ] at hi hj
      rw [h i j x hi hj]
theorem er_get (os : List Nat) (k i : Nat) : (os.eraseIdx k)[i]? = if i < k then os[i]? else os[i + 1]? := List.getElem?_eraseIdx
theorem nd_erase {os : List Nat} (h : nd os) (k : Nat) : nd (os.eraseIdx k) := by
  intro i j x hi hj
  rw [er_get] at hi hj
  split at hi <;> split at hj
  · exact h _ _ _ hi hj
  · have := h _ _ _ hi hj
    omega
  · have := h _ _ _ hi hj
    omega
  · have := h _ _ _ hi hj
    omega
theorem ni_erase {os : List Nat} {x : Nat} (h : ni x os) (k : Nat) : ni x (os.eraseIdx k) := by
  intro i hi
  rw [er_get] at hi
  split at hi
  · exact h _ hi
  · exact h _ hi
theorem ni_self {os : List Nat} {k c : Nat} (h : nd os) (hc : os[k]? = some c) : ni c (os.eraseIdx k) := by
  intro i hi
  rw [er_get] at hi
  split at hi
  · have := h _ _ _ hi hc
    omega
  · have := h _ _ _ hi hc
    omega
theorem pv_erase (os : List Nat) (k i : Nat) : pv (os.eraseIdx k) i = if i ≤ k then pv os i else pv os (i + 1) := by
  cases i with
  | zero => simp [pv]
  | succ j =>
    rw [pv_s, pv_s, pv_s, er_get]
    by_cases h : j < k
    · rw [if_pos h, if_pos (by omega)]
    · rw [if_neg h, if_neg (by omega)]
theorem dll_erase {M M' : sp_M} {sh : Nat} {D : Nat → CD} {os : List Nat} {k c : Nat} (h : dll M sh D os) (hn : nd os) (hc : os[k]? = some c) (hsh : ni sh os)
    (hx : ∀ j x, k = j + 1 → os[j]? = some x → M' x = some (ce sh (D x) (pv os j) os[k + 1]?)) (hy : ∀ y, os[k + 1]? = some y → M' y = some (ce sh (D y) (pv os k) os[k + 2]?))
    (ho : ∀ q, q ≠ sh → (∀ j, k = j + 1 → os[j]? ≠ some q) → os[k + 1]? ≠ some q → M' q = M q) : dll M' sh D (os.eraseIdx k) := by
  intro i q hi
  have hi0 := hi
  rw [er_get] at hi
  rw [pv_erase, er_get]
  by_cases h1 : i < k
  · rw [if_pos h1] at hi
    rw [if_pos (by omega)]
    by_cases h2 : i + 1 < k
    · rw [if_pos h2, ho q (fun e => hsh i (by rw [← e]; exact hi)) (fun j hj hq => by have := hn _ _ _ hi hq; omega) (fun hq => by have := hn _ _ _ hi hq; omega)]
      exact h i q hi
    · have hk : k = i + 1 := by omega
      subst hk
      rw [if_neg h2]
      exact hx i q rfl hi
  · rw [if_neg h1] at hi
    rw [if_neg (by omega : ¬ i + 1 < k)]
    by_cases h2 : i ≤ k
    · have hk : i = k := by omega
      subst hk
      rw [if_pos (Nat.le_refl _)]
      exact hy q hi
    · rw [if_neg h2, ho q (fun e => hsh (i + 1) (by rw [← e]; exact hi)) (fun j hj hq => by have := hn _ _ _ hi hq; omega) (fun hq => by have := hn _ _ _ hi hq; omega)]
      exact h (i + 1) q hi
theorem dll_cons {M M' : sp_M} {sh : Nat} {D : Nat → CD} {os : List Nat} {c : Nat} (h : dll M sh D os) (hn : nd os) (hc : ni c os) (hsh : ni sh os) (h0 : M' c = some (ce sh (D c) none os[0]?)) (hx : ∀ x, os[0]? = some x → M' x = some (ce sh (D x) (some c) os[1]?)) (ho : ∀ q, q ≠ sh → q ≠ c → os[0]? ≠ some q → M' q = M q) : dll M' sh D (c :: os) := by
  intro i q hi
  cases i with
  | zero =>
    rw [List.getElem?_cons_zero] at hi
    cases hi
    rw [List.getElem?_cons_succ]
    exact h0
  | succ i =>
    rw [List.getElem?_cons_succ] at hi ⊢
    cases i with
    | zero =>
      rw [pv_s, List.getElem?_cons_zero]
      exact hx q hi
    | succ j =>
      rw [pv_s, List.getElem?_cons_succ, ho q (fun e => hsh _ (by rw [← e]; exact hi)) (fun e => hc _ (by rw [← e]; exact hi)) (fun hq => by have := hn _ _ _ hi hq; omega)]
      exact h (j + 1) q hi
theorem rf_n : va_rf none = .null := (rfl : _ = _).trans rfl
theorem rf_s (a : Nat) : va_rf (some a) = .ref a := (rfl : _ = _).trans rfl
/-- a shelf's cell: what is counted, and the ends of its chains -/
def sg (cc cp pg it : Nat) (fr f b : Option Nat) : va_E := .inr (2, [.int (nI cc), .int (nI cp), .int (nI pg), .int (nI it), va_rf fr, va_rf f, va_rf b])
theorem ce_ne {M : sp_M} {sh c sh2 cc cp pg it : Nat} {d : CD} {nw ol fr f b : Option Nat} (h1 : M c = some (ce sh2 d nw ol)) (h2 : M sh = some (sg cc cp pg it fr f b)) : c ≠ sh := by
  intro e
  rw [e, h2] at h1
  cases h1
def T_Shelf_linkFront (G : sp_G) : sp_T := fun av M Post => ∃ sh c cc cp pg it fr os D nw ol, av = [.ref sh, .ref c] ∧ M sh = some (sg cc cp pg it fr os[0]? (pv os os.length)) ∧ dll M sh D os ∧ nd os ∧ ni c os ∧ M c = some (ce sh (D c) nw ol) ∧
  ∀ M', M' sh = some (sg cc cp pg it fr (some c) (pv (c :: os) (c :: os).length)) → dll M' sh D (c :: os) → (∀ q, q ≠ sh → q ≠ c → os[0]? ≠ some q → M' q = M q) → Post none M'
set_option maxHeartbeats 4000000 in
set_option maxRecDepth 100000 in
theorem c_Shelf_linkFront (l : Launch) (G : sp_G) : sp_Met l G y_Shelf_linkFront b_Shelf_linkFront 2 none {} (T_Shelf_linkFront G) := by
  refine sp_entry (by decide) (fun av M Post h => ?_) (fun z M av Post hz _ hT => ?_)
  · obtain ⟨sh, c, cc, cp, pg, it, fr, os, D, nw, ol, rfl, -⟩ := h
    exact Nat.le_of_ble_eq_true rfl
  · obtain ⟨sh, c, cc, cp, pg, it, fr, os, D, nw, ol, rfl, hs, hd, hn, hc, h1, hp⟩ := hT
    have hcs := ce_ne h1 hs
    have hsh : ni sh os := fun i hi => ce_ne (hd i sh hi) hs rfl
    cases os with
    | nil =>
      refine sp_run hz _ _ e_Shelf_linkFront_0 _ _ _ ?_
      simp only [k_Shelf_linkFront_0, E_nil, E_iconst, E_bipush, E_sipush, E_ldc, E_ldc2, E_lconst, E_null, E_iload_n, E_lload_n, E_aload_n, E_istore_n, E_lstore_n, E_astore_n, E_astoreN_n, E_iload, E_lload, E_aload, E_istore, E_lstore, E_astore, E_astoreN, E_ldi, E_ldl, E_lda, E_ldN, E_iinc, E_iadd, E_isub, E_imul, E_iand, E_ior, E_ixor, E_ishl, E_ishr, E_idiv, E_irem, E_ineg, E_ladd, E_lsub, E_land, E_lor, E_lcmp, E_lshl, E_lshr, E_lushr, E_i2l, E_l2i, E_i2c, E_dupI, E_popI, E_dup_x1II, E_dup2II, E_dup_x1IR, E_dup2IR, E_dup_x1IN, E_dup2IN, E_dupR, E_popR, E_dup_x1RI, E_dup2RI, E_dup_x1RR, E_dup2RR, E_dup_x1RN, E_dup2RN, E_dupN, E_popN, E_dup_x1NI, E_dup2NI, E_dup_x1NR, E_dup2NR, E_dup_x1NN, E_dup2NN, E_goto, E_if_eq, E_if_ne, E_if_lt, E_if_ge, E_if_gt, E_if_le, E_ic_eq, E_ic_ne, E_ic_lt, E_ic_ge, E_ic_gt, E_ic_le, E_ifnull, E_ifnullN, E_ifnonnull, E_ifnonnullN, E_get, E_gf, E_xv, E_n0, E_ns, E_putI, E_putR, E_putN, E_pf, E_st0, E_sts, E_iaload, E_caload, E_laload, E_aaload, E_alen, E_iast, E_cast, E_last, E_xI, E_xJ, E_xQ, E_xN, E_lk, E_lkn, E_s1, E_s1h, E_s1I, E_s1R, E_s1N, E_s1L, E_s2, E_s2h, E_s2L, E_s2I, E_s2R, E_s2N, E_a1, E_a0, E_aI, E_aR, E_aN, E_aL, Option.isSome_some, eq_self, true_and, and_true, true_or, or_true, ne_eq, not_false_eq_true, not_true_eq_false, reduceIte, reduceCtorEq, Nat.reduceAdd, Nat.reduceBEq, Nat.reduceEqDiff, Option.toList_some, Option.toList_none, List.cons_append, List.nil_append, h1, hs, ce, ck_e, sg, sp_u_s, sp_u_n _ _ (Ne.symm hcs), sp_u_n _ _ hcs, List.getElem?_nil, List.length_nil, pv_0, rf_n]
      refine sp_run hz _ _ e_Shelf_linkFront_36 _ _ _ ?_
      simp only [k_Shelf_linkFront_36, E_nil, E_iconst, E_bipush, E_sipush, E_ldc, E_ldc2, E_lconst, E_null, E_iload_n, E_lload_n, E_aload_n, E_istore_n, E_lstore_n, E_astore_n, E_astoreN_n, E_iload, E_lload, E_aload, E_istore, E_lstore, E_astore, E_astoreN, E_ldi, E_ldl, E_lda, E_ldN, E_iinc, E_iadd, E_isub, E_imul, E_iand, E_ior, E_ixor, E_ishl, E_ishr, E_idiv, E_irem, E_ineg, E_ladd, E_lsub, E_land, E_lor, E_lcmp, E_lshl, E_lshr, E_lushr, E_i2l, E_l2i, E_i2c, E_dupI, E_popI, E_dup_x1II, E_dup2II, E_dup_x1IR, E_dup2IR, E_dup_x1IN, E_dup2IN, E_dupR, E_popR, E_dup_x1RI, E_dup2RI, E_dup_x1RR, E_dup2RR, E_dup_x1RN, E_dup2RN, E_dupN, E_popN, E_dup_x1NI, E_dup2NI, E_dup_x1NR, E_dup2NR, E_dup_x1NN, E_dup2NN, E_goto, E_if_eq, E_if_ne, E_if_lt, E_if_ge, E_if_gt, E_if_le, E_ic_eq, E_ic_ne, E_ic_lt, E_ic_ge, E_ic_gt, E_ic_le, E_ifnull, E_ifnullN, E_ifnonnull, E_ifnonnullN, E_get, E_gf, E_xv, E_n0, E_ns, E_putI, E_putR, E_putN, E_pf, E_st0, E_sts, E_iaload, E_caload, E_laload, E_aaload, E_alen, E_iast, E_cast, E_last, E_xI, E_xJ, E_xQ, E_xN, E_lk, E_lkn, E_s1, E_s1h, E_s1I, E_s1R, E_s1N, E_s1L, E_s2, E_s2h, E_s2L, E_s2I, E_s2R, E_s2N, E_a1, E_a0, E_aI, E_aR, E_aN, E_aL, Option.isSome_some, eq_self, true_and, and_true, true_or, or_true, ne_eq, not_false_eq_true, not_true_eq_false, reduceIte, reduceCtorEq, Nat.reduceAdd, Nat.reduceBEq, Nat.reduceEqDiff, Option.toList_some, Option.toList_none, List.cons_append, List.nil_append, sp_u_s]
      refine sp_vret hz d_Shelf_linkFront_41 (Nat.le_refl _) (Nat.le_refl _) (hp _ ?_ ?_ ?_)
      · rw [sp_u_s]
        rfl
      · refine dll_cons hd hn hc hsh ?_ (fun x hx => by cases hx) (fun q q1 q2 _ => ?_)
        · rw [sp_u_n _ _ hcs, sp_u_n _ _ hcs, sp_u_s]
          rfl
        · rw [sp_u_n _ _ q1, sp_u_n _ _ q1, sp_u_n _ _ q2, sp_u_n _ _ q2]
      · intro q q1 q2 _
        rw [sp_u_n _ _ q1, sp_u_n _ _ q1, sp_u_n _ _ q2, sp_u_n _ _ q2]
    | cons x os =>
      have hx := hd 0 x rfl
      have hxc : x ≠ c := fun e => hc 0 (by rw [← e]; rfl)
      have hxs := ce_ne hx hs
      refine sp_run hz _ _ e_Shelf_linkFront_0 _ _ _ ?_
      simp only [k_Shelf_linkFront_0, E_nil, E_iconst, E_bipush, E_sipush, E_ldc, E_ldc2, E_lconst, E_null, E_iload_n, E_lload_n, E_aload_n, E_istore_n, E_lstore_n, E_astore_n, E_astoreN_n, E_iload, E_lload, E_aload, E_istore, E_lstore, E_astore, E_astoreN, E_ldi, E_ldl, E_lda, E_ldN, E_iinc, E_iadd, E_isub, E_imul, E_iand, E_ior, E_ixor, E_ishl, E_ishr, E_idiv, E_irem, E_ineg, E_ladd, E_lsub, E_land, E_lor, E_lcmp, E_lshl, E_lshr, E_lushr, E_i2l, E_l2i, E_i2c, E_dupI, E_popI, E_dup_x1II, E_dup2II, E_dup_x1IR, E_dup2IR, E_dup_x1IN, E_dup2IN, E_dupR, E_popR, E_dup_x1RI, E_dup2RI, E_dup_x1RR, E_dup2RR, E_dup_x1RN, E_dup2RN, E_dupN, E_popN, E_dup_x1NI, E_dup2NI, E_dup_x1NR, E_dup2NR, E_dup_x1NN, E_dup2NN, E_goto, E_if_eq, E_if_ne, E_if_lt, E_if_ge, E_if_gt, E_if_le, E_ic_eq, E_ic_ne, E_ic_lt, E_ic_ge, E_ic_gt, E_ic_le, E_ifnull, E_ifnullN, E_ifnonnull, E_ifnonnullN, E_get, E_gf, E_xv, E_n0, E_ns, E_putI, E_putR, E_putN, E_pf, E_st0, E_sts, E_iaload, E_caload, E_laload, E_aaload, E_alen, E_iast, E_cast, E_last, E_xI, E_xJ, E_xQ, E_xN, E_lk, E_lkn, E_s1, E_s1h, E_s1I, E_s1R, E_s1N, E_s1L, E_s2, E_s2h, E_s2L, E_s2I, E_s2R, E_s2N, E_a1, E_a0, E_aI, E_aR, E_aN, E_aL, Option.isSome_some, eq_self, true_and, and_true, true_or, or_true, ne_eq, not_false_eq_true, not_true_eq_false, reduceIte, reduceCtorEq, Nat.reduceAdd, Nat.reduceBEq, Nat.reduceEqDiff, Option.toList_some, Option.toList_none, List.cons_append, List.nil_append, h1, hs, ce, ck_e, sg, sp_u_s, sp_u_n _ _ (Ne.symm hcs), sp_u_n _ _ hcs, List.getElem?_cons_zero, pv_0, rf_n, rf_s]
      refine sp_run hz _ _ e_Shelf_linkFront_28 _ _ _ ?_
      simp only [k_Shelf_linkFront_28, E_nil, E_iconst, E_bipush, E_sipush, E_ldc, E_ldc2, E_lconst, E_null, E_iload_n, E_lload_n, E_aload_n, E_istore_n, E_lstore_n, E_astore_n, E_astoreN_n, E_iload, E_lload, E_aload, E_istore, E_lstore, E_astore, E_astoreN, E_ldi, E_ldl, E_lda, E_ldN, E_iinc, E_iadd, E_isub, E_imul, E_iand, E_ior, E_ixor, E_ishl, E_ishr, E_idiv, E_irem, E_ineg, E_ladd, E_lsub, E_land, E_lor, E_lcmp, E_lshl, E_lshr, E_lushr, E_i2l, E_l2i, E_i2c, E_dupI, E_popI, E_dup_x1II, E_dup2II, E_dup_x1IR, E_dup2IR, E_dup_x1IN, E_dup2IN, E_dupR, E_popR, E_dup_x1RI, E_dup2RI, E_dup_x1RR, E_dup2RR, E_dup_x1RN, E_dup2RN, E_dupN, E_popN, E_dup_x1NI, E_dup2NI, E_dup_x1NR, E_dup2NR, E_dup_x1NN, E_dup2NN, E_goto, E_if_eq, E_if_ne, E_if_lt, E_if_ge, E_if_gt, E_if_le, E_ic_eq, E_ic_ne, E_ic_lt, E_ic_ge, E_ic_gt, E_ic_le, E_ifnull, E_ifnullN, E_ifnonnull, E_ifnonnullN, E_get, E_gf, E_xv, E_n0, E_ns, E_putI, E_putR, E_putN, E_pf, E_st0, E_sts, E_iaload, E_caload, E_laload, E_aaload, E_alen, E_iast, E_cast, E_last, E_xI, E_xJ, E_xQ, E_xN, E_lk, E_lkn, E_s1, E_s1h, E_s1I, E_s1R, E_s1N, E_s1L, E_s2, E_s2h, E_s2L, E_s2I, E_s2R, E_s2N, E_a1, E_a0, E_aI, E_aR, E_aN, E_aL, Option.isSome_some, eq_self, true_and, and_true, true_or, or_true, ne_eq, not_false_eq_true, not_true_eq_false, reduceIte, reduceCtorEq, Nat.reduceAdd, Nat.reduceBEq, Nat.reduceEqDiff, Option.toList_some, Option.toList_none, List.cons_append, List.nil_append, hx, hs, ce, ck_e, sg, sp_u_s, sp_u_n _ _ (Ne.symm hcs), sp_u_n _ _ hxc, List.getElem?_cons_zero, rf_s]
      refine sp_run hz _ _ e_Shelf_linkFront_36 _ _ _ ?_
      simp only [k_Shelf_linkFront_36, E_nil, E_iconst, E_bipush, E_sipush, E_ldc, E_ldc2, E_lconst, E_null, E_iload_n, E_lload_n, E_aload_n, E_istore_n, E_lstore_n, E_astore_n, E_astoreN_n, E_iload, E_lload, E_aload, E_istore, E_lstore, E_astore, E_astoreN, E_ldi, E_ldl, E_lda, E_ldN, E_iinc, E_iadd, E_isub, E_imul, E_iand, E_ior, E_ixor, E_ishl, E_ishr, E_idiv, E_irem, E_ineg, E_ladd, E_lsub, E_land, E_lor, E_lcmp, E_lshl, E_lshr, E_lushr, E_i2l, E_l2i, E_i2c, E_dupI, E_popI, E_dup_x1II, E_dup2II, E_dup_x1IR, E_dup2IR, E_dup_x1IN, E_dup2IN, E_dupR, E_popR, E_dup_x1RI, E_dup2RI, E_dup_x1RR, E_dup2RR, E_dup_x1RN, E_dup2RN, E_dupN, E_popN, E_dup_x1NI, E_dup2NI, E_dup_x1NR, E_dup2NR, E_dup_x1NN, E_dup2NN, E_goto, E_if_eq, E_if_ne, E_if_lt, E_if_ge, E_if_gt, E_if_le, E_ic_eq, E_ic_ne, E_ic_lt, E_ic_ge, E_ic_gt, E_ic_le, E_ifnull, E_ifnullN, E_ifnonnull, E_ifnonnullN, E_get, E_gf, E_xv, E_n0, E_ns, E_putI, E_putR, E_putN, E_pf, E_st0, E_sts, E_iaload, E_caload, E_laload, E_aaload, E_alen, E_iast, E_cast, E_last, E_xI, E_xJ, E_xQ, E_xN, E_lk, E_lkn, E_s1, E_s1h, E_s1I, E_s1R, E_s1N, E_s1L, E_s2, E_s2h, E_s2L, E_s2I, E_s2R, E_s2N, E_a1, E_a0, E_aI, E_aR, E_aN, E_aL, Option.isSome_some, eq_self, true_and, and_true, true_or, or_true, ne_eq, not_false_eq_true, not_true_eq_false, reduceIte, reduceCtorEq, Nat.reduceAdd, Nat.reduceBEq, Nat.reduceEqDiff, Option.toList_some, Option.toList_none, List.cons_append, List.nil_append, hs, sg, sp_u_s, sp_u_n _ _ (Ne.symm hcs), sp_u_n _ _ (Ne.symm hxs)]
      refine sp_vret hz d_Shelf_linkFront_41 (Nat.le_refl _) (Nat.le_refl _) (hp _ ?_ ?_ ?_)
      · rw [sp_u_s]
        rfl
      · refine dll_cons hd hn hc hsh ?_ (fun y hy => ?_) (fun q q1 q2 q3 => ?_)
        · rw [sp_u_n _ _ hcs, sp_u_n _ _ (Ne.symm hxc), sp_u_s]
          rfl
        · rw [List.getElem?_cons_zero] at hy
          cases hy
          rw [sp_u_n _ _ hxs, sp_u_s]
          rfl
        · have q4 : q ≠ x := fun e => q3 (by rw [e]; rfl)
          rw [sp_u_n _ _ q1, sp_u_n _ _ q4, sp_u_n _ _ q2, sp_u_n _ _ q2]
      · intro q q1 q2 q3
        have q4 : q ≠ x := fun e => q3 (by rw [e]; rfl)
        rw [sp_u_n _ _ q1, sp_u_n _ _ q4, sp_u_n _ _ q2, sp_u_n _ _ q2]
