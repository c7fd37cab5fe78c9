/-! The model's writing: say, numbers, texts, messages. -/
theorem rT_app {f : Nat → Int32} {a : List Nat} (h : rT f a) (c : Nat) : rT (upd f a.length (nI c)) (a ++ [c]) := by
  intro i hi
  rw [List.length_append, List.length_singleton] at hi
  unfold upd
  by_cases e : i = a.length
  · rw [if_pos e, e, List.getD_eq_getElem?_getD, List.getElem?_append_right (Nat.le_refl _), Nat.sub_self]
    rfl
  · rw [if_neg e, h i (by omega), List.getD_eq_getElem?_getD, List.getD_eq_getElem?_getD, List.getElem?_append_left (by omega)]
def T_Mod_say (G : sp_G) : sp_T := fun av M Post => ∃ B s a R pg ws fr V c, av = [.ref (B 0), .int (nI c)] ∧ rS G M B s a R pg ws fr V ∧ c < 65536 ∧ a.length < 600 ∧ ∀ M', rS G M' B s (a ++ [c]) R pg ws fr (up V 3 (a.length + 1)) → rfr B M M' → Post none M'
set_option maxHeartbeats 4000000 in
set_option maxRecDepth 100000 in
theorem c_Mod_say (l : Launch) (G : sp_G) : sp_Met l G y_Mod_say b_Mod_say 2 none {} (T_Mod_say G) := by
  refine sp_entry (by decide) (fun av M Post h => ?_) (fun z M av Post hz _ hT => ?_)
  · obtain ⟨B, s, a, R, pg, ws, fr, V, c, rfl, -⟩ := h
    exact Nat.le_of_ble_eq_true rfl
  · obtain ⟨B, s, a, R, pg, ws, fr, V, c, rfl, ⟨F, K, h0, ⟨l1, l3, l5, l21, l25⟩, ⟨t2, t4, t26, tw, ti, tp⟩, ⟨b1, b2, b3, b4, b5⟩, hr⟩, hc, ha, hp⟩ := hT
    have h4 : M (B 4) = some (.inl (G.2.1 0, 600, .inl (F 4))) := h0.a 4 rfl
    have n04 := h0.ne 0 4 rfl rfl (by decide)
    refine sp_run hz _ _ e_Mod_say_0 _ _ _ ?_
    simp only [k_Mod_say_0, E_nil, E_iconst, E_bipush, E_sipush, E_ldc, E_ldc2, E_lconst, E_null, E_iload_n, E_lload_n, E_aload_n, E_istore_n, E_lstore_n, E_astore_n, E_astoreN_n, E_iload, E_lload, E_aload, E_istore, E_lstore, E_astore, E_astoreN, E_ldi, E_ldl, E_lda, E_ldN, E_iinc, E_iadd, E_isub, E_imul, E_iand, E_ior, E_ixor, E_ishl, E_ishr, E_idiv, E_irem, E_ineg, E_ladd, E_lsub, E_land, E_lor, E_lcmp, E_lshl, E_lshr, E_lushr, E_i2l, E_l2i, E_i2c, E_dupI, E_popI, E_dup_x1II, E_dup2II, E_dup_x1IR, E_dup2IR, E_dup_x1IN, E_dup2IN, E_dupR, E_popR, E_dup_x1RI, E_dup2RI, E_dup_x1RR, E_dup2RR, E_dup_x1RN, E_dup2RN, E_dupN, E_popN, E_dup_x1NI, E_dup2NI, E_dup_x1NR, E_dup2NR, E_dup_x1NN, E_dup2NN, E_goto, E_if_eq, E_if_ne, E_if_lt, E_if_ge, E_if_gt, E_if_le, E_ic_eq, E_ic_ne, E_ic_lt, E_ic_ge, E_ic_gt, E_ic_le, E_ifnull, E_ifnullN, E_ifnonnull, E_ifnonnullN, E_get, E_gf, E_xv, E_n0, E_ns, E_putI, E_putR, E_putN, E_pf, E_st0, E_sts, E_iaload, E_caload, E_laload, E_aaload, E_alen, E_iast, E_cast, E_last, E_xI, E_xJ, E_xQ, E_xN, E_lk, E_lkn, E_s1, E_s1h, E_s1I, E_s1R, E_s1N, E_s1L, E_s2, E_s2h, E_s2L, E_s2I, E_s2R, E_s2N, E_a1, E_a0, E_aI, E_aR, E_aN, E_aL, Option.isSome_some, eq_self, true_and, and_true, true_or, or_true, ne_eq, not_false_eq_true, not_true_eq_false, reduceIte, reduceCtorEq, Nat.reduceAdd, Nat.reduceBEq, Nat.reduceEqDiff, Option.toList_some, Option.toList_none, List.cons_append, List.nil_append, h0.o, h4, rn_4, rn_3, sp_u_s, sp_u_n _ _ n04, nI_1, rs_3, l3]
    refine ⟨nI_in (by omega) (by omega), ?_⟩
    rw [nI_clamp (by omega), pu_nar hc]
    exact sp_vret hz d_Mod_say_20 (Nat.le_refl _) (Nat.le_refl _) (hp _ ⟨_, K, (h0.arr (j := 4) rfl _).fld _, ⟨l1, by rw [List.length_append]; rfl, l5, l21, l25⟩, ⟨t2, rT_app t4 c, t26, tw, ti, tp⟩, ⟨b1, by rw [List.length_append, List.length_singleton]; omega, b3, b4, b5⟩, hr⟩ (((rfr.refl B M).u (j := 4) rfl).u (j := 0) rfl))
theorem nI_m1 (j : Nat) : nI (j + 1) + (-1) = nI j := pk_m1 j
theorem txb_s (n k : Nat) : txb n (k + 1) = (if byt n k = 0 then [] else [byt n k]) ++ txb n k := rfl
theorem txb_len (n : Nat) : ∀ k, (txb n k).length ≤ k
  | 0 => Nat.le_refl _
  | k + 1 => by
    have := txb_len n k
    rw [txb_s, List.length_append]
    split <;> simp <;> omega
theorem b_i2c {x : Nat} (h : x < 65536) : ((nI x).toUInt32 % 65536).toInt32 = nI x := by rw [pk_char, pk_tn (by omega), Nat.mod_eq_of_lt h]
def T_Mod_sayText (G : sp_G) : sp_T := fun av M Post => ∃ B s a R pg ws fr V n, av = [.ref (B 0), .long (lN n)] ∧ rS G M B s a R pg ws fr V ∧ a.length + 8 ≤ 600 ∧ ∀ M', rS G M' B s (a ++ txb n 8) R pg ws fr (up V 3 (a ++ txb n 8).length) → rfr B M M' → Post none M'
set_option maxHeartbeats 4000000 in
set_option maxRecDepth 100000 in
theorem c_Mod_sayText (l : Launch) (G : sp_G) : sp_Met l G y_Mod_sayText b_Mod_sayText 5 none { frames := 1, locals := 21 } (T_Mod_sayText G) := by
  refine sp_entry (by decide) (fun av M Post h => ?_) (fun z M av Post hz _ hT => ?_)
  · obtain ⟨B, s, a, R, pg, ws, fr, V, n, rfl, -⟩ := h
    exact Nat.le_of_ble_eq_true rfl
  · obtain ⟨B, s, a, R, pg, ws, fr, V, n, rfl, hS, ha, hp⟩ := hT
    have loop : ∀ j (a1 : List Nat) M1 (L : sp_L), (∀ q ∈ [(0, .ref (B 0)), (1, .long (lN n)), (3, .int (nI j + (-1)))], q ∈ L) → j ≤ 8 → a1 ++ txb n j = a ++ txb n 8 → rS G M1 B s a1 R pg ws fr (up V 3 a1.length) → rfr B M M1 → sp_W z G M (sp_Q z G M Post 0 0) 5 0 0 3 L [] M1 := by
      intro j
      induction j with
      | zero =>
        intro a1 M1 L hL hj ea hS1 hf
        refine sp_Lm _ hL ?_
        refine sp_run hz _ _ e_Mod_sayText_3 _ _ _ ?_
        simp only [k_Mod_sayText_3, E_nil, E_iconst, E_bipush, E_sipush, E_ldc, E_ldc2, E_lconst, E_null, E_iload_n, E_lload_n, E_aload_n, E_istore_n, E_lstore_n, E_astore_n, E_astoreN_n, E_iload, E_lload, E_aload, E_istore, E_lstore, E_astore, E_astoreN, E_ldi, E_ldl, E_lda, E_ldN, E_iinc, E_iadd, E_isub, E_imul, E_iand, E_ior, E_ixor, E_ishl, E_ishr, E_idiv, E_irem, E_ineg, E_ladd, E_lsub, E_land, E_lor, E_lcmp, E_lshl, E_lshr, E_lushr, E_i2l, E_l2i, E_i2c, E_dupI, E_popI, E_dup_x1II, E_dup2II, E_dup_x1IR, E_dup2IR, E_dup_x1IN, E_dup2IN, E_dupR, E_popR, E_dup_x1RI, E_dup2RI, E_dup_x1RR, E_dup2RR, E_dup_x1RN, E_dup2RN, E_dupN, E_popN, E_dup_x1NI, E_dup2NI, E_dup_x1NR, E_dup2NR, E_dup_x1NN, E_dup2NN, E_goto, E_if_eq, E_if_ne, E_if_lt, E_if_ge, E_if_gt, E_if_le, E_ic_eq, E_ic_ne, E_ic_lt, E_ic_ge, E_ic_gt, E_ic_le, E_ifnull, E_ifnullN, E_ifnonnull, E_ifnonnullN, E_get, E_gf, E_xv, E_n0, E_ns, E_putI, E_putR, E_putN, E_pf, E_st0, E_sts, E_iaload, E_caload, E_laload, E_aaload, E_alen, E_iast, E_cast, E_last, E_xI, E_xJ, E_xQ, E_xN, E_lk, E_lkn, E_s1, E_s1h, E_s1I, E_s1R, E_s1N, E_s1L, E_s2, E_s2h, E_s2L, E_s2I, E_s2R, E_s2N, E_a1, E_a0, E_aI, E_aR, E_aN, E_aL, Option.isSome_some, eq_self, true_and, and_true, true_or, or_true, ne_eq, not_false_eq_true, not_true_eq_false, reduceIte, reduceCtorEq, Nat.reduceAdd, Nat.reduceBEq, Nat.reduceEqDiff, Option.toList_some, Option.toList_none, List.cons_append, List.nil_append]
        refine ⟨fun _ => ?_, fun h => absurd (by decide) h⟩
        rw [show a1 ++ txb n 0 = a1 from List.append_nil a1] at ea
        subst ea
        exact sp_vret hz d_Mod_sayText_38 (Nat.le_refl _) (Nat.le_refl _) (hp M1 hS1 hf)
      | succ j ih =>
        intro a1 M1 L hL hj ea hS1 hf
        rw [nI_m1] at hL
        refine sp_Lm _ hL ?_
        have hb := byt_lt n j
        have hl : a1.length + (txb n (j + 1)).length ≤ a.length + 8 := by
          rw [← List.length_append, ea, List.length_append]
          have := txb_len n 8
          omega
        have next : ∀ a2 M2 (L : sp_L), (∀ q ∈ [(0, .ref (B 0)), (1, .long (lN n)), (3, .int (nI j))], q ∈ L) → a2 ++ txb n j = a ++ txb n 8 → rS G M2 B s a2 R pg ws fr (up V 3 a2.length) → rfr B M M2 → sp_W z G M (sp_Q z G M Post 0 0) 5 0 0 32 L [] M2 := by
          intro a2 M2 L hL ea2 hS2 hf2
          refine sp_Lm _ hL ?_
          refine sp_run hz _ _ e_Mod_sayText_32 _ _ _ ?_
          simp only [k_Mod_sayText_32, E_nil, E_iconst, E_bipush, E_sipush, E_ldc, E_ldc2, E_lconst, E_null, E_iload_n, E_lload_n, E_aload_n, E_istore_n, E_lstore_n, E_astore_n, E_astoreN_n, E_iload, E_lload, E_aload, E_istore, E_lstore, E_astore, E_astoreN, E_ldi, E_ldl, E_lda, E_ldN, E_iinc, E_iadd, E_isub, E_imul, E_iand, E_ior, E_ixor, E_ishl, E_ishr, E_idiv, E_irem, E_ineg, E_ladd, E_lsub, E_land, E_lor, E_lcmp, E_lshl, E_lshr, E_lushr, E_i2l, E_l2i, E_i2c, E_dupI, E_popI, E_dup_x1II, E_dup2II, E_dup_x1IR, E_dup2IR, E_dup_x1IN, E_dup2IN, E_dupR, E_popR, E_dup_x1RI, E_dup2RI, E_dup_x1RR, E_dup2RR, E_dup_x1RN, E_dup2RN, E_dupN, E_popN, E_dup_x1NI, E_dup2NI, E_dup_x1NR, E_dup2NR, E_dup_x1NN, E_dup2NN, E_goto, E_if_eq, E_if_ne, E_if_lt, E_if_ge, E_if_gt, E_if_le, E_ic_eq, E_ic_ne, E_ic_lt, E_ic_ge, E_ic_gt, E_ic_le, E_ifnull, E_ifnullN, E_ifnonnull, E_ifnonnullN, E_get, E_gf, E_xv, E_n0, E_ns, E_putI, E_putR, E_putN, E_pf, E_st0, E_sts, E_iaload, E_caload, E_laload, E_aaload, E_alen, E_iast, E_cast, E_last, E_xI, E_xJ, E_xQ, E_xN, E_lk, E_lkn, E_s1, E_s1h, E_s1I, E_s1R, E_s1N, E_s1L, E_s2, E_s2h, E_s2L, E_s2I, E_s2R, E_s2N, E_a1, E_a0, E_aI, E_aR, E_aN, E_aL, Option.isSome_some, eq_self, true_and, and_true, true_or, or_true, ne_eq, not_false_eq_true, not_true_eq_false, reduceIte, reduceCtorEq, Nat.reduceAdd, Nat.reduceBEq, Nat.reduceEqDiff, Option.toList_some, Option.toList_none, List.cons_append, List.nil_append]
          exact ih a2 M2 _ (by simp) (by omega) ea2 hS2 hf2
        refine sp_run hz _ _ e_Mod_sayText_3 _ _ _ ?_
        simp only [k_Mod_sayText_3, E_nil, E_iconst, E_bipush, E_sipush, E_ldc, E_ldc2, E_lconst, E_null, E_iload_n, E_lload_n, E_aload_n, E_istore_n, E_lstore_n, E_astore_n, E_astoreN_n, E_iload, E_lload, E_aload, E_istore, E_lstore, E_astore, E_astoreN, E_ldi, E_ldl, E_lda, E_ldN, E_iinc, E_iadd, E_isub, E_imul, E_iand, E_ior, E_ixor, E_ishl, E_ishr, E_idiv, E_irem, E_ineg, E_ladd, E_lsub, E_land, E_lor, E_lcmp, E_lshl, E_lshr, E_lushr, E_i2l, E_l2i, E_i2c, E_dupI, E_popI, E_dup_x1II, E_dup2II, E_dup_x1IR, E_dup2IR, E_dup_x1IN, E_dup2IN, E_dupR, E_popR, E_dup_x1RI, E_dup2RI, E_dup_x1RR, E_dup2RR, E_dup_x1RN, E_dup2RN, E_dupN, E_popN, E_dup_x1NI, E_dup2NI, E_dup_x1NR, E_dup2NR, E_dup_x1NN, E_dup2NN, E_goto, E_if_eq, E_if_ne, E_if_lt, E_if_ge, E_if_gt, E_if_le, E_ic_eq, E_ic_ne, E_ic_lt, E_ic_ge, E_ic_gt, E_ic_le, E_ifnull, E_ifnullN, E_ifnonnull, E_ifnonnullN, E_get, E_gf, E_xv, E_n0, E_ns, E_putI, E_putR, E_putN, E_pf, E_st0, E_sts, E_iaload, E_caload, E_laload, E_aaload, E_alen, E_iast, E_cast, E_last, E_xI, E_xJ, E_xQ, E_xN, E_lk, E_lkn, E_s1, E_s1h, E_s1I, E_s1R, E_s1N, E_s1L, E_s2, E_s2h, E_s2L, E_s2I, E_s2R, E_s2N, E_a1, E_a0, E_aI, E_aR, E_aN, E_aL, Option.isSome_some, eq_self, true_and, and_true, true_or, or_true, ne_eq, not_false_eq_true, not_true_eq_false, reduceIte, reduceCtorEq, Nat.reduceAdd, Nat.reduceBEq, Nat.reduceEqDiff, Option.toList_some, Option.toList_none, List.cons_append, List.nil_append, pk8, sb_byt n (show j < 8 by omega), lN_i, b_i2c (show byt n j < 65536 by omega)]
        refine ⟨fun h => absurd h (nI_pos (by omega)), fun _ => ⟨fun h => ?_, fun h => ?_⟩⟩
        · have h0 : byt n j = 0 := (nI_eq (b := 0) (by omega) (by decide)).mp h
          exact next a1 M1 _ (by simp) (by rw [txb_s, if_pos h0] at ea; exact ea) hS1 hf
        · have h0 : byt n j ≠ 0 := fun e => h (by rw [e]; rfl)
          rw [txb_s, if_neg h0] at ea hl
          refine sp_callV hz (c_Mod_say l G) (ci := 8) (As := [.int (nI (byt n j))]) (rest := []) rfl w_Mod_64 (by decide) hS1.o rfl (Nat.le_of_ble_eq_true rfl) d_Mod_sayText_29 ⟨B, s, a1, R, pg, ws, fr, _, byt n j, rfl, hS1, by omega, by rw [List.length_append, List.length_singleton] at hl; omega, fun M2 hS2 hf2 => ?_⟩ rfl
          rw [up_up] at hS2
          exact next (a1 ++ [byt n j]) M2 _ (by simp) (by rw [List.append_assoc]; exact ea) (by rw [List.length_append]; exact hS2) (hf.trans hf2)
    refine sp_run hz _ _ e_Mod_sayText_0 _ _ _ ?_
    simp only [k_Mod_sayText_0, E_nil, E_iconst, E_bipush, E_sipush, E_ldc, E_ldc2, E_lconst, E_null, E_iload_n, E_lload_n, E_aload_n, E_istore_n, E_lstore_n, E_astore_n, E_astoreN_n, E_iload, E_lload, E_aload, E_istore, E_lstore, E_astore, E_astoreN, E_ldi, E_ldl, E_lda, E_ldN, E_iinc, E_iadd, E_isub, E_imul, E_iand, E_ior, E_ixor, E_ishl, E_ishr, E_idiv, E_irem, E_ineg, E_ladd, E_lsub, E_land, E_lor, E_lcmp, E_lshl, E_lshr, E_lushr, E_i2l, E_l2i, E_i2c, E_dupI, E_popI, E_dup_x1II, E_dup2II, E_dup_x1IR, E_dup2IR, E_dup_x1IN, E_dup2IN, E_dupR, E_popR, E_dup_x1RI, E_dup2RI, E_dup_x1RR, E_dup2RR, E_dup_x1RN, E_dup2RN, E_dupN, E_popN, E_dup_x1NI, E_dup2NI, E_dup_x1NR, E_dup2NR, E_dup_x1NN, E_dup2NN, E_goto, E_if_eq, E_if_ne, E_if_lt, E_if_ge, E_if_gt, E_if_le, E_ic_eq, E_ic_ne, E_ic_lt, E_ic_ge, E_ic_gt, E_ic_le, E_ifnull, E_ifnullN, E_ifnonnull, E_ifnonnullN, E_get, E_gf, E_xv, E_n0, E_ns, E_putI, E_putR, E_putN, E_pf, E_st0, E_sts, E_iaload, E_caload, E_laload, E_aaload, E_alen, E_iast, E_cast, E_last, E_xI, E_xJ, E_xQ, E_xN, E_lk, E_lkn, E_s1, E_s1h, E_s1I, E_s1R, E_s1N, E_s1L, E_s2, E_s2h, E_s2L, E_s2I, E_s2R, E_s2N, E_a1, E_a0, E_aI, E_aR, E_aN, E_aL, Option.isSome_some, eq_self, true_and, and_true, true_or, or_true, ne_eq, not_false_eq_true, not_true_eq_false, reduceIte, reduceCtorEq, Nat.reduceAdd, Nat.reduceBEq, Nat.reduceEqDiff, Option.toList_some, Option.toList_none, List.cons_append, List.nil_append]
    have hV : up V 3 a.length = V := by rw [← hS.bl.1.2.1]; exact up_same V 3
    exact loop 8 a M _ (by simp; decide) (Nat.le_refl _) rfl (by rw [hV]; exact hS) (rfr.refl B M)
-- numbers
def fdg (v : Nat) : Nat → List Nat
  | 0 => [48 + v / 10 ^ 0 % 10]
  | k + 1 => (48 + v / 10 ^ (k + 1) % 10) :: fdg v k
theorem fdg_e (v : Nat) : ∀ k, (k = 0 ∨ 10 ^ k ≤ v) → pu_dcl k v = fdg v k
  | 0, _ => by
    show [48 + v % 10] = [48 + v / 1 % 10]
    rw [Nat.div_one]
  | k + 1, h => by
    have h1 : 10 ^ (k + 1) ≤ v := h.resolve_left (by omega)
    show (if 10 ^ (k + 1) ≤ v then [48 + v / 10 ^ (k + 1) % 10] else []) ++ pu_dcl k v = _
    rw [if_pos h1, fdg_e v k (Or.inr (Nat.le_trans (Nat.pow_le_pow_right (by decide) (by omega)) h1))]
    rfl
theorem fdg_len (v : Nat) : ∀ k, (fdg v k).length = k + 1
  | 0 => rfl
  | k + 1 => by
    show (fdg v k).length + 1 = _
    rw [fdg_len v k]
theorem p10_div (k : Nat) : (10 : Nat) ^ (k + 1) / 10 = 10 ^ k := by rw [Nat.pow_succ]; exact Nat.mul_div_cancel _ (by decide)
theorem p10_lt {k : Nat} (h : k ≤ 8) : 10 ^ k < 2 ^ 31 := pow10 k (by omega)
def T_Mod_sayNumber (G : sp_G) : sp_T := fun av M Post => ∃ B s a R pg ws fr V v, av = [.ref (B 0), .int (nI v)] ∧ rS G M B s a R pg ws fr V ∧ v < 1000000000 ∧ a.length + 9 ≤ 600 ∧ ∀ M', rS G M' B s (a ++ pu_dec v) R pg ws fr (up V 3 (a ++ pu_dec v).length) → rfr B M M' → Post none M'
theorem e8_p : (100000000 : Int32) = nI (10 ^ 8) := by decide +kernel
theorem i10 : ¬ (10 : Int32) = 0 := by decide
set_option maxHeartbeats 4000000 in
set_option maxRecDepth 100000 in
theorem c_Mod_sayNumber (l : Launch) (G : sp_G) : sp_Met l G y_Mod_sayNumber b_Mod_sayNumber 3 none { frames := 1, locals := 21 } (T_Mod_sayNumber G) := by
  refine sp_entry (by decide) (fun av M Post h => ?_) (fun z M av Post hz _ hT => ?_)
  · obtain ⟨B, s, a, R, pg, ws, fr, V, v, rfl, -⟩ := h
    exact Nat.le_of_ble_eq_true rfl
  · obtain ⟨B, s, a, R, pg, ws, fr, V, v, rfl, hS, hv, ha, hp⟩ := hT
    have ret : ∀ M1 (L : sp_L), (∀ q ∈ [(0, .ref (B 0)), (1, .int (nI v)), (2, .int (nI 0))], q ∈ L) → rS G M1 B s (a ++ pu_dec v) R pg ws fr (up V 3 (a ++ pu_dec v).length) → rfr B M M1 → sp_W z G M (sp_Q z G M Post 0 0) 3 0 0 21 L [] M1 := by
      intro M1 L hL hS1 hf
      refine sp_Lm _ hL ?_
      refine sp_run hz _ _ e_Mod_sayNumber_21 _ _ _ ?_
      simp only [k_Mod_sayNumber_21, E_nil, E_iconst, E_bipush, E_sipush, E_ldc, E_ldc2, E_lconst, E_null, E_iload_n, E_lload_n, E_aload_n, E_istore_n, E_lstore_n, E_astore_n, E_astoreN_n, E_iload, E_lload, E_aload, E_istore, E_lstore, E_astore, E_astoreN, E_ldi, E_ldl, E_lda, E_ldN, E_iinc, E_iadd, E_isub, E_imul, E_iand, E_ior, E_ixor, E_ishl, E_ishr, E_idiv, E_irem, E_ineg, E_ladd, E_lsub, E_land, E_lor, E_lcmp, E_lshl, E_lshr, E_lushr, E_i2l, E_l2i, E_i2c, E_dupI, E_popI, E_dup_x1II, E_dup2II, E_dup_x1IR, E_dup2IR, E_dup_x1IN, E_dup2IN, E_dupR, E_popR, E_dup_x1RI, E_dup2RI, E_dup_x1RR, E_dup2RR, E_dup_x1RN, E_dup2RN, E_dupN, E_popN, E_dup_x1NI, E_dup2NI, E_dup_x1NR, E_dup2NR, E_dup_x1NN, E_dup2NN, E_goto, E_if_eq, E_if_ne, E_if_lt, E_if_ge, E_if_gt, E_if_le, E_ic_eq, E_ic_ne, E_ic_lt, E_ic_ge, E_ic_gt, E_ic_le, E_ifnull, E_ifnullN, E_ifnonnull, E_ifnonnullN, E_get, E_gf, E_xv, E_n0, E_ns, E_putI, E_putR, E_putN, E_pf, E_st0, E_sts, E_iaload, E_caload, E_laload, E_aaload, E_alen, E_iast, E_cast, E_last, E_xI, E_xJ, E_xQ, E_xN, E_lk, E_lkn, E_s1, E_s1h, E_s1I, E_s1R, E_s1N, E_s1L, E_s2, E_s2h, E_s2L, E_s2I, E_s2R, E_s2N, E_a1, E_a0, E_aI, E_aR, E_aN, E_aL, Option.isSome_some, eq_self, true_and, and_true, true_or, or_true, ne_eq, not_false_eq_true, not_true_eq_false, reduceIte, reduceCtorEq, Nat.reduceAdd, Nat.reduceBEq, Nat.reduceEqDiff, Option.toList_some, Option.toList_none, List.cons_append, List.nil_append]
      exact ⟨fun _ => sp_vret hz d_Mod_sayNumber_47 (Nat.le_refl _) (Nat.le_refl _) (hp M1 hS1 hf), fun h => absurd (by decide) h⟩
    have loop2 : ∀ k (a1 : List Nat) M1 (L : sp_L), (∀ q ∈ [(0, .ref (B 0)), (1, .int (nI v)), (2, .int (nI (10 ^ k)))], q ∈ L) → k ≤ 8 → a1 ++ fdg v k = a ++ pu_dec v → a1.length + (k + 1) ≤ 600 → rS G M1 B s a1 R pg ws fr (up V 3 a1.length) → rfr B M M1 → sp_W z G M (sp_Q z G M Post 0 0) 3 0 0 21 L [] M1 := by
      intro k
      induction k with
      | zero =>
        intro a1 M1 L hL hk ea hl hS1 hf
        refine sp_Lm _ hL ?_
        have hd : 48 + v / 10 ^ 0 % 10 < 65536 := by have := Nat.mod_lt (v / 10 ^ 0) (show 0 < 10 by decide); omega
        refine sp_run hz _ _ e_Mod_sayNumber_21 _ _ _ ?_
        have hne : ¬ nI (10 ^ 0) = 0 := by decide
        simp only [k_Mod_sayNumber_21, E_nil, E_iconst, E_bipush, E_sipush, E_ldc, E_ldc2, E_lconst, E_null, E_iload_n, E_lload_n, E_aload_n, E_istore_n, E_lstore_n, E_astore_n, E_astoreN_n, E_iload, E_lload, E_aload, E_istore, E_lstore, E_astore, E_astoreN, E_ldi, E_ldl, E_lda, E_ldN, E_iinc, E_iadd, E_isub, E_imul, E_iand, E_ior, E_ixor, E_ishl, E_ishr, E_idiv, E_irem, E_ineg, E_ladd, E_lsub, E_land, E_lor, E_lcmp, E_lshl, E_lshr, E_lushr, E_i2l, E_l2i, E_i2c, E_dupI, E_popI, E_dup_x1II, E_dup2II, E_dup_x1IR, E_dup2IR, E_dup_x1IN, E_dup2IN, E_dupR, E_popR, E_dup_x1RI, E_dup2RI, E_dup_x1RR, E_dup2RR, E_dup_x1RN, E_dup2RN, E_dupN, E_popN, E_dup_x1NI, E_dup2NI, E_dup_x1NR, E_dup2NR, E_dup_x1NN, E_dup2NN, E_goto, E_if_eq, E_if_ne, E_if_lt, E_if_ge, E_if_gt, E_if_le, E_ic_eq, E_ic_ne, E_ic_lt, E_ic_ge, E_ic_gt, E_ic_le, E_ifnull, E_ifnullN, E_ifnonnull, E_ifnonnullN, E_get, E_gf, E_xv, E_n0, E_ns, E_putI, E_putR, E_putN, E_pf, E_st0, E_sts, E_iaload, E_caload, E_laload, E_aaload, E_alen, E_iast, E_cast, E_last, E_xI, E_xJ, E_xQ, E_xN, E_lk, E_lkn, E_s1, E_s1h, E_s1I, E_s1R, E_s1N, E_s1L, E_s2, E_s2h, E_s2L, E_s2I, E_s2R, E_s2N, E_a1, E_a0, E_aI, E_aR, E_aN, E_aL, Option.isSome_some, eq_self, true_and, and_true, true_or, or_true, ne_eq, not_false_eq_true, not_true_eq_false, reduceIte, reduceCtorEq, Nat.reduceAdd, Nat.reduceBEq, Nat.reduceEqDiff, Option.toList_some, Option.toList_none, List.cons_append, List.nil_append, i10, hne, pk_div (a := v) (d := 10 ^ 0) (by omega) (by decide) (by decide)]
        refine ⟨fun h => absurd h (by decide), fun _ => ?_⟩
        have e1 : nI (v / 10 ^ 0) - nI (v / 10 ^ 0) / 10 * 10 = nI (v / 10 ^ 0 % 10) := pk_rem (d := 10) (Nat.lt_of_le_of_lt (Nat.div_le_self _ _) (by omega)) (by decide) (by decide)
        rw [e1, show (48 : Int32) + nI (v / 10 ^ 0 % 10) = nI (48 + v / 10 ^ 0 % 10) from (Int32.ofNat_add 48 _).symm, b_i2c hd]
        refine sp_callV hz (c_Mod_say l G) (ci := 8) (As := [.int (nI (48 + v / 10 ^ 0 % 10))]) (rest := []) rfl w_Mod_64 (by decide) hS1.o rfl (Nat.le_of_ble_eq_true rfl) d_Mod_sayNumber_36 ⟨B, s, a1, R, pg, ws, fr, _, _, rfl, hS1, hd, by omega, fun M2 hS2 hf2 => ?_⟩ rfl
        rw [up_up] at hS2
        refine sp_run hz _ _ e_Mod_sayNumber_39 _ _ _ ?_
        simp only [k_Mod_sayNumber_39, E_nil, E_iconst, E_bipush, E_sipush, E_ldc, E_ldc2, E_lconst, E_null, E_iload_n, E_lload_n, E_aload_n, E_istore_n, E_lstore_n, E_astore_n, E_astoreN_n, E_iload, E_lload, E_aload, E_istore, E_lstore, E_astore, E_astoreN, E_ldi, E_ldl, E_lda, E_ldN, E_iinc, E_iadd, E_isub, E_imul, E_iand, E_ior, E_ixor, E_ishl, E_ishr, E_idiv, E_irem, E_ineg, E_ladd, E_lsub, E_land, E_lor, E_lcmp, E_lshl, E_lshr, E_lushr, E_i2l, E_l2i, E_i2c, E_dupI, E_popI, E_dup_x1II, E_dup2II, E_dup_x1IR, E_dup2IR, E_dup_x1IN, E_dup2IN, E_dupR, E_popR, E_dup_x1RI, E_dup2RI, E_dup_x1RR, E_dup2RR, E_dup_x1RN, E_dup2RN, E_dupN, E_popN, E_dup_x1NI, E_dup2NI, E_dup_x1NR, E_dup2NR, E_dup_x1NN, E_dup2NN, E_goto, E_if_eq, E_if_ne, E_if_lt, E_if_ge, E_if_gt, E_if_le, E_ic_eq, E_ic_ne, E_ic_lt, E_ic_ge, E_ic_gt, E_ic_le, E_ifnull, E_ifnullN, E_ifnonnull, E_ifnonnullN, E_get, E_gf, E_xv, E_n0, E_ns, E_putI, E_putR, E_putN, E_pf, E_st0, E_sts, E_iaload, E_caload, E_laload, E_aaload, E_alen, E_iast, E_cast, E_last, E_xI, E_xJ, E_xQ, E_xN, E_lk, E_lkn, E_s1, E_s1h, E_s1I, E_s1R, E_s1N, E_s1L, E_s2, E_s2h, E_s2L, E_s2I, E_s2R, E_s2N, E_a1, E_a0, E_aI, E_aR, E_aN, E_aL, Option.isSome_some, eq_self, true_and, and_true, true_or, or_true, ne_eq, not_false_eq_true, not_true_eq_false, reduceIte, reduceCtorEq, Nat.reduceAdd, Nat.reduceBEq, Nat.reduceEqDiff, Option.toList_some, Option.toList_none, List.cons_append, List.nil_append, i10]
        refine ret M2 _ (by simp; decide) ?_ (hf.trans hf2)
        rw [← ea]
        show rS G M2 B s (a1 ++ [48 + v / 10 ^ 0 % 10]) R pg ws fr (up V 3 (a1 ++ [48 + v / 10 ^ 0 % 10]).length)
        rw [List.length_append]
        exact hS2
      | succ k ih =>
        intro a1 M1 L hL hk ea hl hS1 hf
        refine sp_Lm _ hL ?_
        have hp31 := p10_lt hk
        have hp0 : 0 < 10 ^ (k + 1) := Nat.pow_pos (by decide)
        have hd : 48 + v / 10 ^ (k + 1) % 10 < 65536 := by have := Nat.mod_lt (v / 10 ^ (k + 1)) (show 0 < 10 by decide); omega
        refine sp_run hz _ _ e_Mod_sayNumber_21 _ _ _ ?_
        have hne : ¬ nI (10 ^ (k + 1)) = 0 := fun h => absurd ((nI_eq (b := 0) hp31 (by decide)).mp h) (by omega)
        simp only [k_Mod_sayNumber_21, E_nil, E_iconst, E_bipush, E_sipush, E_ldc, E_ldc2, E_lconst, E_null, E_iload_n, E_lload_n, E_aload_n, E_istore_n, E_lstore_n, E_astore_n, E_astoreN_n, E_iload, E_lload, E_aload, E_istore, E_lstore, E_astore, E_astoreN, E_ldi, E_ldl, E_lda, E_ldN, E_iinc, E_iadd, E_isub, E_imul, E_iand, E_ior, E_ixor, E_ishl, E_ishr, E_idiv, E_irem, E_ineg, E_ladd, E_lsub, E_land, E_lor, E_lcmp, E_lshl, E_lshr, E_lushr, E_i2l, E_l2i, E_i2c, E_dupI, E_popI, E_dup_x1II, E_dup2II, E_dup_x1IR, E_dup2IR, E_dup_x1IN, E_dup2IN, E_dupR, E_popR, E_dup_x1RI, E_dup2RI, E_dup_x1RR, E_dup2RR, E_dup_x1RN, E_dup2RN, E_dupN, E_popN, E_dup_x1NI, E_dup2NI, E_dup_x1NR, E_dup2NR, E_dup_x1NN, E_dup2NN, E_goto, E_if_eq, E_if_ne, E_if_lt, E_if_ge, E_if_gt, E_if_le, E_ic_eq, E_ic_ne, E_ic_lt, E_ic_ge, E_ic_gt, E_ic_le, E_ifnull, E_ifnullN, E_ifnonnull, E_ifnonnullN, E_get, E_gf, E_xv, E_n0, E_ns, E_putI, E_putR, E_putN, E_pf, E_st0, E_sts, E_iaload, E_caload, E_laload, E_aaload, E_alen, E_iast, E_cast, E_last, E_xI, E_xJ, E_xQ, E_xN, E_lk, E_lkn, E_s1, E_s1h, E_s1I, E_s1R, E_s1N, E_s1L, E_s2, E_s2h, E_s2L, E_s2I, E_s2R, E_s2N, E_a1, E_a0, E_aI, E_aR, E_aN, E_aL, Option.isSome_some, eq_self, true_and, and_true, true_or, or_true, ne_eq, not_false_eq_true, not_true_eq_false, reduceIte, reduceCtorEq, Nat.reduceAdd, Nat.reduceBEq, Nat.reduceEqDiff, Option.toList_some, Option.toList_none, List.cons_append, List.nil_append, i10, hne, pk_div (a := v) (d := 10 ^ (k + 1)) (by omega) hp0 hp31]
        refine ⟨fun h => absurd ((nI_leI (b := 0) hp31 (by decide)).mp h) (by omega), fun _ => ?_⟩
        have e1 : nI (v / 10 ^ (k + 1)) - nI (v / 10 ^ (k + 1)) / 10 * 10 = nI (v / 10 ^ (k + 1) % 10) := pk_rem (d := 10) (Nat.lt_of_le_of_lt (Nat.div_le_self _ _) (by omega)) (by decide) (by decide)
        rw [e1, show (48 : Int32) + nI (v / 10 ^ (k + 1) % 10) = nI (48 + v / 10 ^ (k + 1) % 10) from (Int32.ofNat_add 48 _).symm, b_i2c hd]
        refine sp_callV hz (c_Mod_say l G) (ci := 8) (As := [.int (nI (48 + v / 10 ^ (k + 1) % 10))]) (rest := []) rfl w_Mod_64 (by decide) hS1.o rfl (Nat.le_of_ble_eq_true rfl) d_Mod_sayNumber_36 ⟨B, s, a1, R, pg, ws, fr, _, _, rfl, hS1, hd, by omega, fun M2 hS2 hf2 => ?_⟩ rfl
        rw [up_up] at hS2
        have e2 : nI (10 ^ (k + 1)) / 10 = nI (10 ^ k) := (pk_div (d := 10) hp31 (by decide) (by decide)).trans (by rw [p10_div])
        refine sp_run hz _ _ e_Mod_sayNumber_39 _ _ _ ?_
        simp only [k_Mod_sayNumber_39, E_nil, E_iconst, E_bipush, E_sipush, E_ldc, E_ldc2, E_lconst, E_null, E_iload_n, E_lload_n, E_aload_n, E_istore_n, E_lstore_n, E_astore_n, E_astoreN_n, E_iload, E_lload, E_aload, E_istore, E_lstore, E_astore, E_astoreN, E_ldi, E_ldl, E_lda, E_ldN, E_iinc, E_iadd, E_isub, E_imul, E_iand, E_ior, E_ixor, E_ishl, E_ishr, E_idiv, E_irem, E_ineg, E_ladd, E_lsub, E_land, E_lor, E_lcmp, E_lshl, E_lshr, E_lushr, E_i2l, E_l2i, E_i2c, E_dupI, E_popI, E_dup_x1II, E_dup2II, E_dup_x1IR, E_dup2IR, E_dup_x1IN, E_dup2IN, E_dupR, E_popR, E_dup_x1RI, E_dup2RI, E_dup_x1RR, E_dup2RR, E_dup_x1RN, E_dup2RN, E_dupN, E_popN, E_dup_x1NI, E_dup2NI, E_dup_x1NR, E_dup2NR, E_dup_x1NN, E_dup2NN, E_goto, E_if_eq, E_if_ne, E_if_lt, E_if_ge, E_if_gt, E_if_le, E_ic_eq, E_ic_ne, E_ic_lt, E_ic_ge, E_ic_gt, E_ic_le, E_ifnull, E_ifnullN, E_ifnonnull, E_ifnonnullN, E_get, E_gf, E_xv, E_n0, E_ns, E_putI, E_putR, E_putN, E_pf, E_st0, E_sts, E_iaload, E_caload, E_laload, E_aaload, E_alen, E_iast, E_cast, E_last, E_xI, E_xJ, E_xQ, E_xN, E_lk, E_lkn, E_s1, E_s1h, E_s1I, E_s1R, E_s1N, E_s1L, E_s2, E_s2h, E_s2L, E_s2I, E_s2R, E_s2N, E_a1, E_a0, E_aI, E_aR, E_aN, E_aL, Option.isSome_some, eq_self, true_and, and_true, true_or, or_true, ne_eq, not_false_eq_true, not_true_eq_false, reduceIte, reduceCtorEq, Nat.reduceAdd, Nat.reduceBEq, Nat.reduceEqDiff, Option.toList_some, Option.toList_none, List.cons_append, List.nil_append, i10, e2]
        refine ih (a1 ++ [48 + v / 10 ^ (k + 1) % 10]) M2 _ (by simp) (by omega) ?_ (by rw [List.length_append, List.length_singleton]; omega) (by rw [List.length_append]; exact hS2) (hf.trans hf2)
        rw [List.append_assoc]
        exact ea
    have hV : up V 3 a.length = V := by rw [← hS.bl.1.2.1]; exact up_same V 3
    have loop1 : ∀ k (L : sp_L), (∀ q ∈ [(0, .ref (B 0)), (1, .int (nI v)), (2, .int (nI (10 ^ k)))], q ∈ L) → k ≤ 8 → pu_dec v = pu_dcl k v → sp_W z G M (sp_Q z G M Post 0 0) 3 0 0 3 L [] M := by
      intro k
      induction k with
      | zero =>
        intro L hL hk ea
        refine sp_Lm _ hL ?_
        refine sp_run hz _ _ e_Mod_sayNumber_3 _ _ _ ?_
        simp only [k_Mod_sayNumber_3, E_nil, E_iconst, E_bipush, E_sipush, E_ldc, E_ldc2, E_lconst, E_null, E_iload_n, E_lload_n, E_aload_n, E_istore_n, E_lstore_n, E_astore_n, E_astoreN_n, E_iload, E_lload, E_aload, E_istore, E_lstore, E_astore, E_astoreN, E_ldi, E_ldl, E_lda, E_ldN, E_iinc, E_iadd, E_isub, E_imul, E_iand, E_ior, E_ixor, E_ishl, E_ishr, E_idiv, E_irem, E_ineg, E_ladd, E_lsub, E_land, E_lor, E_lcmp, E_lshl, E_lshr, E_lushr, E_i2l, E_l2i, E_i2c, E_dupI, E_popI, E_dup_x1II, E_dup2II, E_dup_x1IR, E_dup2IR, E_dup_x1IN, E_dup2IN, E_dupR, E_popR, E_dup_x1RI, E_dup2RI, E_dup_x1RR, E_dup2RR, E_dup_x1RN, E_dup2RN, E_dupN, E_popN, E_dup_x1NI, E_dup2NI, E_dup_x1NR, E_dup2NR, E_dup_x1NN, E_dup2NN, E_goto, E_if_eq, E_if_ne, E_if_lt, E_if_ge, E_if_gt, E_if_le, E_ic_eq, E_ic_ne, E_ic_lt, E_ic_ge, E_ic_gt, E_ic_le, E_ifnull, E_ifnullN, E_ifnonnull, E_ifnonnullN, E_get, E_gf, E_xv, E_n0, E_ns, E_putI, E_putR, E_putN, E_pf, E_st0, E_sts, E_iaload, E_caload, E_laload, E_aaload, E_alen, E_iast, E_cast, E_last, E_xI, E_xJ, E_xQ, E_xN, E_lk, E_lkn, E_s1, E_s1h, E_s1I, E_s1R, E_s1N, E_s1L, E_s2, E_s2h, E_s2L, E_s2I, E_s2R, E_s2N, E_a1, E_a0, E_aI, E_aR, E_aN, E_aL, Option.isSome_some, eq_self, true_and, and_true, true_or, or_true, ne_eq, not_false_eq_true, not_true_eq_false, reduceIte, reduceCtorEq, Nat.reduceAdd, Nat.reduceBEq, Nat.reduceEqDiff, Option.toList_some, Option.toList_none, List.cons_append, List.nil_append, i10]
        refine ⟨fun _ => loop2 0 a M _ (by simp) (by decide) (by rw [ea, fdg_e v 0 (Or.inl rfl)]) (by omega) (by rw [hV]; exact hS) (rfr.refl B M), fun h => absurd (by decide) h⟩
      | succ k ih =>
        intro L hL hk ea
        refine sp_Lm _ hL ?_
        have hp31 := p10_lt hk
        have hp0 : 0 < 10 ^ k := Nat.pow_pos (by decide)
        have e2 : nI (10 ^ (k + 1)) / 10 = nI (10 ^ k) := (pk_div (d := 10) hp31 (by decide) (by decide)).trans (by rw [p10_div])
        refine sp_run hz _ _ e_Mod_sayNumber_3 _ _ _ ?_
        simp only [k_Mod_sayNumber_3, E_nil, E_iconst, E_bipush, E_sipush, E_ldc, E_ldc2, E_lconst, E_null, E_iload_n, E_lload_n, E_aload_n, E_istore_n, E_lstore_n, E_astore_n, E_astoreN_n, E_iload, E_lload, E_aload, E_istore, E_lstore, E_astore, E_astoreN, E_ldi, E_ldl, E_lda, E_ldN, E_iinc, E_iadd, E_isub, E_imul, E_iand, E_ior, E_ixor, E_ishl, E_ishr, E_idiv, E_irem, E_ineg, E_ladd, E_lsub, E_land, E_lor, E_lcmp, E_lshl, E_lshr, E_lushr, E_i2l, E_l2i, E_i2c, E_dupI, E_popI, E_dup_x1II, E_dup2II, E_dup_x1IR, E_dup2IR, E_dup_x1IN, E_dup2IN, E_dupR, E_popR, E_dup_x1RI, E_dup2RI, E_dup_x1RR, E_dup2RR, E_dup_x1RN, E_dup2RN, E_dupN, E_popN, E_dup_x1NI, E_dup2NI, E_dup_x1NR, E_dup2NR, E_dup_x1NN, E_dup2NN, E_goto, E_if_eq, E_if_ne, E_if_lt, E_if_ge, E_if_gt, E_if_le, E_ic_eq, E_ic_ne, E_ic_lt, E_ic_ge, E_ic_gt, E_ic_le, E_ifnull, E_ifnullN, E_ifnonnull, E_ifnonnullN, E_get, E_gf, E_xv, E_n0, E_ns, E_putI, E_putR, E_putN, E_pf, E_st0, E_sts, E_iaload, E_caload, E_laload, E_aaload, E_alen, E_iast, E_cast, E_last, E_xI, E_xJ, E_xQ, E_xN, E_lk, E_lkn, E_s1, E_s1h, E_s1I, E_s1R, E_s1N, E_s1L, E_s2, E_s2h, E_s2L, E_s2I, E_s2R, E_s2N, E_a1, E_a0, E_aI, E_aR, E_aN, E_aL, Option.isSome_some, eq_self, true_and, and_true, true_or, or_true, ne_eq, not_false_eq_true, not_true_eq_false, reduceIte, reduceCtorEq, Nat.reduceAdd, Nat.reduceBEq, Nat.reduceEqDiff, Option.toList_some, Option.toList_none, List.cons_append, List.nil_append, i10, e2]
        refine ⟨fun h => absurd ((nI_leI (b := 1) hp31 (by decide)).mp h) (by rw [Nat.pow_succ]; omega), fun _ => ⟨fun h => ?_, fun h => ?_⟩⟩
        · have h1 := (nI_leI hp31 (by omega)).mp h
          exact loop2 (k + 1) a M _ (by simp) hk (by rw [ea, fdg_e v (k + 1) (Or.inr h1)]) (by omega) (by rw [hV]; exact hS) (rfr.refl B M)
        · refine ih _ (by simp) (by omega) ?_
          rw [ea]
          show (if 10 ^ (k + 1) ≤ v then _ else []) ++ pu_dcl k v = _
          rw [if_neg (fun q => h ((nI_leI hp31 (by omega)).mpr q))]
          rfl
    refine sp_run hz _ _ e_Mod_sayNumber_0 _ _ _ ?_
    simp only [k_Mod_sayNumber_0, E_nil, E_iconst, E_bipush, E_sipush, E_ldc, E_ldc2, E_lconst, E_null, E_iload_n, E_lload_n, E_aload_n, E_istore_n, E_lstore_n, E_astore_n, E_astoreN_n, E_iload, E_lload, E_aload, E_istore, E_lstore, E_astore, E_astoreN, E_ldi, E_ldl, E_lda, E_ldN, E_iinc, E_iadd, E_isub, E_imul, E_iand, E_ior, E_ixor, E_ishl, E_ishr, E_idiv, E_irem, E_ineg, E_ladd, E_lsub, E_land, E_lor, E_lcmp, E_lshl, E_lshr, E_lushr, E_i2l, E_l2i, E_i2c, E_dupI, E_popI, E_dup_x1II, E_dup2II, E_dup_x1IR, E_dup2IR, E_dup_x1IN, E_dup2IN, E_dupR, E_popR, E_dup_x1RI, E_dup2RI, E_dup_x1RR, E_dup2RR, E_dup_x1RN, E_dup2RN, E_dupN, E_popN, E_dup_x1NI, E_dup2NI, E_dup_x1NR, E_dup2NR, E_dup_x1NN, E_dup2NN, E_goto, E_if_eq, E_if_ne, E_if_lt, E_if_ge, E_if_gt, E_if_le, E_ic_eq, E_ic_ne, E_ic_lt, E_ic_ge, E_ic_gt, E_ic_le, E_ifnull, E_ifnullN, E_ifnonnull, E_ifnonnullN, E_get, E_gf, E_xv, E_n0, E_ns, E_putI, E_putR, E_putN, E_pf, E_st0, E_sts, E_iaload, E_caload, E_laload, E_aaload, E_alen, E_iast, E_cast, E_last, E_xI, E_xJ, E_xQ, E_xN, E_lk, E_lkn, E_s1, E_s1h, E_s1I, E_s1R, E_s1N, E_s1L, E_s2, E_s2h, E_s2L, E_s2I, E_s2R, E_s2N, E_a1, E_a0, E_aI, E_aR, E_aN, E_aL, Option.isSome_some, eq_self, true_and, and_true, true_or, or_true, ne_eq, not_false_eq_true, not_true_eq_false, reduceIte, reduceCtorEq, Nat.reduceAdd, Nat.reduceBEq, Nat.reduceEqDiff, Option.toList_some, Option.toList_none, List.cons_append, List.nil_append, e8_p]
    refine loop1 8 _ (by simp) (Nat.le_refl _) ?_
    show (if 10 ^ 9 ≤ v then _ else []) ++ pu_dcl 8 v = _
    rw [if_neg (by omega)]
    rfl
