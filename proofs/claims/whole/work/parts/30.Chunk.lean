/-! Chunk: room for one item, a link of a chain -/
def ck_e (sh fl tk gn : Nat) (nw ol : Option Nat) (rm kl : Nat) : va_E := .inr (1, [.ref sh, .int (nI fl), .int (nI tk), .int (nI gn), va_rf nw, va_rf ol, .ref rm, .int (nI kl)])
/-- at c a chunk of the shelf sh holds an item, its text at rm and rch -/
def ck (G : sp_G) (M : sp_M) (c sh : Nat) (key data : List Nat) (fl tk gn : Nat) (nw ol : Option Nat) (rm rch cap : Nat) : Prop := M c = some (ck_e sh fl tk gn nw ol rm key.length) ∧ tx G M rm rch cap (key ++ data)
theorem ck.len {G : sp_G} {M : sp_M} {c sh : Nat} {key data : List Nat} {fl tk gn : Nat} {nw ol : Option Nat} {rm rch cap : Nat} (h : ck G M c sh key data fl tk gn nw ol rm rch cap) : key.length + data.length < 1000 := by
  have h1 := h.2.2.1
  have h2 := h.2.2.2.1
  rw [List.length_append] at h1
  omega
theorem pu_seg_l (k d : List Nat) : pu_seg (k ++ d) 0 k.length = k := by
  rw [← pu_seg_all k]
  unfold pu_seg
  rw [List.length_map, List.length_range]
  refine List.map_congr_left (fun i hi => ?_)
  have hi := List.mem_range.mp hi
  rw [← List.map_congr_left (g := fun i => k.getD (0 + i) 0) (fun _ _ => rfl)]
  have := pu_seg_all k
  unfold pu_seg at this
  rw [this, Nat.zero_add]
  exact pu_getD_app hi
theorem pu_seg_r (k d : List Nat) (n : Nat) : pu_seg (k ++ d) k.length n = pu_seg d 0 n := by
  unfold pu_seg
  refine List.map_congr_left (fun i _ => ?_)
  rw [Nat.zero_add, List.getD_eq_getElem?_getD, List.getD_eq_getElem?_getD, List.getElem?_append_right (Nat.le_add_right _ _), Nat.add_sub_cancel_left]
theorem pu_isnum_r (k d : List Nat) (n : Nat) : pu_isnum (k ++ d) k.length n = pu_isnum d 0 n := by
  unfold pu_isnum
  rw [pu_seg_r]
def off3 (M M' : sp_M) (a b c : Nat) : Prop := ∀ q, q ≠ a → q ≠ b → q ≠ c → M' q = M q
theorem sp_rmI {R0 rm : Room} {maxL cs sl : Nat} (h1 : rm.frames + 1 ≤ R0.frames) (h2 : 8 + (maxL + 11) + rm.locals ≤ R0.locals) (h3 : cs + rm.cells ≤ R0.cells) (h4 : sl + rm.slots ≤ R0.slots) : sp_rm R0 rm maxL cs sl = true := by
  simp only [sp_rm, Bool.and_eq_true, decide_eq_true_eq]
  exact ⟨⟨⟨h1, h2⟩, h3⟩, h4⟩
def T_Chunk_dataLength (G : sp_G) : sp_T := fun av M Post => ∃ c sh key data fl tk gn nw ol rm rch cap, av = [.ref c] ∧ ck G M c sh key data fl tk gn nw ol rm rch cap ∧ Post (some (.int (nI data.length))) M
set_option maxHeartbeats 4000000 in
set_option maxRecDepth 100000 in
theorem c_Chunk_dataLength (l : Launch) (G : sp_G) : sp_Met l G y_Chunk_dataLength b_Chunk_dataLength 1 (some .int) { frames := 1, locals := 20 } (T_Chunk_dataLength G) := by
  refine sp_entry (by decide) (fun av M Post h => ?_) (fun z M av Post hz _ hT => ?_)
  · obtain ⟨c, sh, key, data, fl, tk, gn, nw, ol, rm, rch, cap, rfl, -⟩ := h
    exact Nat.le_of_ble_eq_true rfl
  · obtain ⟨c, sh, key, data, fl, tk, gn, nw, ol, rm, rch, cap, rfl, hc, hp⟩ := hT
    have h1 := hc.1
    refine sp_run hz _ _ e_Chunk_dataLength_0 _ _ _ ?_
    simp only [k_Chunk_dataLength_0, E_nil, E_iconst, E_bipush, E_sipush, E_ldc, E_ldc2, E_lconst, E_null, E_iload_n, E_lload_n, E_aload_n, E_istore_n, E_lstore_n, E_astore_n, E_astoreN_n, E_iload, E_lload, E_aload, E_istore, E_lstore, E_astore, E_astoreN, E_ldi, E_ldl, E_lda, E_ldN, E_iinc, E_iadd, E_isub, E_imul, E_iand, E_ior, E_ixor, E_ishl, E_ishr, E_idiv, E_irem, E_ineg, E_ladd, E_lsub, E_land, E_lor, E_lcmp, E_lshl, E_lshr, E_lushr, E_i2l, E_l2i, E_i2c, E_dupI, E_popI, E_dup_x1II, E_dup2II, E_dup_x1IR, E_dup2IR, E_dup_x1IN, E_dup2IN, E_dupR, E_popR, E_dup_x1RI, E_dup2RI, E_dup_x1RR, E_dup2RR, E_dup_x1RN, E_dup2RN, E_dupN, E_popN, E_dup_x1NI, E_dup2NI, E_dup_x1NR, E_dup2NR, E_dup_x1NN, E_dup2NN, E_goto, E_if_eq, E_if_ne, E_if_lt, E_if_ge, E_if_gt, E_if_le, E_ic_eq, E_ic_ne, E_ic_lt, E_ic_ge, E_ic_gt, E_ic_le, E_ifnull, E_ifnullN, E_ifnonnull, E_ifnonnullN, E_get, E_gf, E_xv, E_n0, E_ns, E_putI, E_putR, E_putN, E_pf, E_st0, E_sts, E_iaload, E_caload, E_laload, E_aaload, E_alen, E_iast, E_cast, E_last, E_xI, E_xJ, E_xQ, E_xN, E_lk, E_lkn, E_s1, E_s1h, E_s1I, E_s1R, E_s1N, E_s1L, E_s2, E_s2h, E_s2L, E_s2I, E_s2R, E_s2N, E_a1, E_a0, E_aI, E_aR, E_aN, E_aL, Option.isSome_some, eq_self, true_and, and_true, true_or, or_true, ne_eq, not_false_eq_true, not_true_eq_false, reduceIte, reduceCtorEq, Nat.reduceAdd, Nat.reduceBEq, Nat.reduceEqDiff, Option.toList_some, Option.toList_none, List.cons_append, List.nil_append, h1, ck_e]
    refine sp_callV hz (c_Text_length l G) (ci := 0) (As := []) (rest := []) rfl w_Chunk_53 (by decide) hc.2.1 rfl (Nat.le_of_ble_eq_true rfl) d_Chunk_dataLength_4 ⟨rm, rch, cap, _, rfl, hc.2, ?_⟩ rfl
    refine sp_run hz _ _ e_Chunk_dataLength_7 _ _ _ ?_
    simp only [k_Chunk_dataLength_7, E_nil, E_iconst, E_bipush, E_sipush, E_ldc, E_ldc2, E_lconst, E_null, E_iload_n, E_lload_n, E_aload_n, E_istore_n, E_lstore_n, E_astore_n, E_astoreN_n, E_iload, E_lload, E_aload, E_istore, E_lstore, E_astore, E_astoreN, E_ldi, E_ldl, E_lda, E_ldN, E_iinc, E_iadd, E_isub, E_imul, E_iand, E_ior, E_ixor, E_ishl, E_ishr, E_idiv, E_irem, E_ineg, E_ladd, E_lsub, E_land, E_lor, E_lcmp, E_lshl, E_lshr, E_lushr, E_i2l, E_l2i, E_i2c, E_dupI, E_popI, E_dup_x1II, E_dup2II, E_dup_x1IR, E_dup2IR, E_dup_x1IN, E_dup2IN, E_dupR, E_popR, E_dup_x1RI, E_dup2RI, E_dup_x1RR, E_dup2RR, E_dup_x1RN, E_dup2RN, E_dupN, E_popN, E_dup_x1NI, E_dup2NI, E_dup_x1NR, E_dup2NR, E_dup_x1NN, E_dup2NN, E_goto, E_if_eq, E_if_ne, E_if_lt, E_if_ge, E_if_gt, E_if_le, E_ic_eq, E_ic_ne, E_ic_lt, E_ic_ge, E_ic_gt, E_ic_le, E_ifnull, E_ifnullN, E_ifnonnull, E_ifnonnullN, E_get, E_gf, E_xv, E_n0, E_ns, E_putI, E_putR, E_putN, E_pf, E_st0, E_sts, E_iaload, E_caload, E_laload, E_aaload, E_alen, E_iast, E_cast, E_last, E_xI, E_xJ, E_xQ, E_xN, E_lk, E_lkn, E_s1, E_s1h, E_s1I, E_s1R, E_s1N, E_s1L, E_s2, E_s2h, E_s2L, E_s2I, E_s2R, E_s2N, E_a1, E_a0, E_aI, E_aR, E_aN, E_aL, Option.isSome_some, eq_self, true_and, and_true, true_or, or_true, ne_eq, not_false_eq_true, not_true_eq_false, reduceIte, reduceCtorEq, Nat.reduceAdd, Nat.reduceBEq, Nat.reduceEqDiff, Option.toList_some, Option.toList_none, List.cons_append, List.nil_append, h1, ck_e]
    rw [List.length_append, pk_sub (Nat.le_add_right _ _), Nat.add_sub_cancel_left]
    exact sp_iret hz d_Chunk_dataLength_12 (Nat.le_refl _) (Nat.le_refl _) hp
def T_Chunk_isNumeric (G : sp_G) : sp_T := fun av M Post => ∃ c sh key data fl tk gn nw ol rm rch cap, av = [.ref c] ∧ ck G M c sh key data fl tk gn nw ol rm rch cap ∧ Post (some (.int (b2i (pu_isnum data 0 data.length)))) M
theorem b2i_nar (b : Bool) : narrow .boolean (.int (b2i b)) = .int (b2i b) := by cases b <;> rfl
set_option maxHeartbeats 4000000 in
set_option maxRecDepth 100000 in
theorem c_Chunk_isNumeric (l : Launch) (G : sp_G) : sp_Met l G y_Chunk_isNumeric b_Chunk_isNumeric 1 (some .boolean) { frames := 2, locals := 45 } (T_Chunk_isNumeric G) := by
  refine sp_entry (by decide) (fun av M Post h => ?_) (fun z M av Post hz _ hT => ?_)
  · obtain ⟨c, sh, key, data, fl, tk, gn, nw, ol, rm, rch, cap, rfl, -⟩ := h
    exact Nat.le_of_ble_eq_true rfl
  · obtain ⟨c, sh, key, data, fl, tk, gn, nw, ol, rm, rch, cap, rfl, hc, hp⟩ := hT
    have h1 := hc.1
    have hlen := hc.len
    refine sp_run hz _ _ e_Chunk_isNumeric_0 _ _ _ ?_
    simp only [k_Chunk_isNumeric_0, E_nil, E_iconst, E_bipush, E_sipush, E_ldc, E_ldc2, E_lconst, E_null, E_iload_n, E_lload_n, E_aload_n, E_istore_n, E_lstore_n, E_astore_n, E_astoreN_n, E_iload, E_lload, E_aload, E_istore, E_lstore, E_astore, E_astoreN, E_ldi, E_ldl, E_lda, E_ldN, E_iinc, E_iadd, E_isub, E_imul, E_iand, E_ior, E_ixor, E_ishl, E_ishr, E_idiv, E_irem, E_ineg, E_ladd, E_lsub, E_land, E_lor, E_lcmp, E_lshl, E_lshr, E_lushr, E_i2l, E_l2i, E_i2c, E_dupI, E_popI, E_dup_x1II, E_dup2II, E_dup_x1IR, E_dup2IR, E_dup_x1IN, E_dup2IN, E_dupR, E_popR, E_dup_x1RI, E_dup2RI, E_dup_x1RR, E_dup2RR, E_dup_x1RN, E_dup2RN, E_dupN, E_popN, E_dup_x1NI, E_dup2NI, E_dup_x1NR, E_dup2NR, E_dup_x1NN, E_dup2NN, E_goto, E_if_eq, E_if_ne, E_if_lt, E_if_ge, E_if_gt, E_if_le, E_ic_eq, E_ic_ne, E_ic_lt, E_ic_ge, E_ic_gt, E_ic_le, E_ifnull, E_ifnullN, E_ifnonnull, E_ifnonnullN, E_get, E_gf, E_xv, E_n0, E_ns, E_putI, E_putR, E_putN, E_pf, E_st0, E_sts, E_iaload, E_caload, E_laload, E_aaload, E_alen, E_iast, E_cast, E_last, E_xI, E_xJ, E_xQ, E_xN, E_lk, E_lkn, E_s1, E_s1h, E_s1I, E_s1R, E_s1N, E_s1L, E_s2, E_s2h, E_s2L, E_s2I, E_s2R, E_s2N, E_a1, E_a0, E_aI, E_aR, E_aN, E_aL, Option.isSome_some, eq_self, true_and, and_true, true_or, or_true, ne_eq, not_false_eq_true, not_true_eq_false, reduceIte, reduceCtorEq, Nat.reduceAdd, Nat.reduceBEq, Nat.reduceEqDiff, Option.toList_some, Option.toList_none, List.cons_append, List.nil_append, h1, ck_e]
    refine sp_callV hz (c_Chunk_dataLength l G) (ci := 1) (As := []) (rest := [.int (nI key.length), .ref rm]) rfl w_Chunk_70 (by decide) h1 rfl (Nat.le_of_ble_eq_true rfl) d_Chunk_isNumeric_9 ⟨c, sh, key, data, fl, tk, gn, nw, ol, rm, rch, cap, rfl, hc, ?_⟩ rfl
    refine sp_callV hz (c_Text_isNumber l G) (ci := 0) (As := [.int (nI key.length), .int (nI data.length)]) (rest := []) rfl w_Chunk_73 (by decide) hc.2.1 rfl (Nat.le_of_ble_eq_true rfl) d_Chunk_isNumeric_12 ⟨rm, rch, cap, _, key.length, data.length, rfl, hc.2, by omega, by omega, ?_⟩ rfl
    rw [pu_isnum_r]
    exact sp_zret hz d_Chunk_isNumeric_15 (b2i_nar _) (Nat.le_refl _) (Nat.le_refl _) hp
def T_Chunk_number (G : sp_G) : sp_T := fun av M Post => ∃ c sh key data fl tk gn nw ol rm rch cap, av = [.ref c] ∧ ck G M c sh key data fl tk gn nw ol rm rch cap ∧ pu_isnum data 0 data.length = true ∧ Post (some (.int (nI (pu_val data)))) M
set_option maxHeartbeats 4000000 in
set_option maxRecDepth 100000 in
theorem c_Chunk_number (l : Launch) (G : sp_G) : sp_Met l G y_Chunk_number b_Chunk_number 1 (some .int) { frames := 2, locals := 45 } (T_Chunk_number G) := by
  refine sp_entry (by decide) (fun av M Post h => ?_) (fun z M av Post hz _ hT => ?_)
  · obtain ⟨c, sh, key, data, fl, tk, gn, nw, ol, rm, rch, cap, rfl, -⟩ := h
    exact Nat.le_of_ble_eq_true rfl
  · obtain ⟨c, sh, key, data, fl, tk, gn, nw, ol, rm, rch, cap, rfl, hc, hnum, hp⟩ := hT
    have h1 := hc.1
    have hlen := hc.len
    have hn := hnum
    rw [← pu_isnum_r key] at hn
    simp only [pu_isnum, Bool.and_eq_true, decide_eq_true_eq] at hn
    refine sp_run hz _ _ e_Chunk_number_0 _ _ _ ?_
    simp only [k_Chunk_number_0, E_nil, E_iconst, E_bipush, E_sipush, E_ldc, E_ldc2, E_lconst, E_null, E_iload_n, E_lload_n, E_aload_n, E_istore_n, E_lstore_n, E_astore_n, E_astoreN_n, E_iload, E_lload, E_aload, E_istore, E_lstore, E_astore, E_astoreN, E_ldi, E_ldl, E_lda, E_ldN, E_iinc, E_iadd, E_isub, E_imul, E_iand, E_ior, E_ixor, E_ishl, E_ishr, E_idiv, E_irem, E_ineg, E_ladd, E_lsub, E_land, E_lor, E_lcmp, E_lshl, E_lshr, E_lushr, E_i2l, E_l2i, E_i2c, E_dupI, E_popI, E_dup_x1II, E_dup2II, E_dup_x1IR, E_dup2IR, E_dup_x1IN, E_dup2IN, E_dupR, E_popR, E_dup_x1RI, E_dup2RI, E_dup_x1RR, E_dup2RR, E_dup_x1RN, E_dup2RN, E_dupN, E_popN, E_dup_x1NI, E_dup2NI, E_dup_x1NR, E_dup2NR, E_dup_x1NN, E_dup2NN, E_goto, E_if_eq, E_if_ne, E_if_lt, E_if_ge, E_if_gt, E_if_le, E_ic_eq, E_ic_ne, E_ic_lt, E_ic_ge, E_ic_gt, E_ic_le, E_ifnull, E_ifnullN, E_ifnonnull, E_ifnonnullN, E_get, E_gf, E_xv, E_n0, E_ns, E_putI, E_putR, E_putN, E_pf, E_st0, E_sts, E_iaload, E_caload, E_laload, E_aaload, E_alen, E_iast, E_cast, E_last, E_xI, E_xJ, E_xQ, E_xN, E_lk, E_lkn, E_s1, E_s1h, E_s1I, E_s1R, E_s1N, E_s1L, E_s2, E_s2h, E_s2L, E_s2I, E_s2R, E_s2N, E_a1, E_a0, E_aI, E_aR, E_aN, E_aL, Option.isSome_some, eq_self, true_and, and_true, true_or, or_true, ne_eq, not_false_eq_true, not_true_eq_false, reduceIte, reduceCtorEq, Nat.reduceAdd, Nat.reduceBEq, Nat.reduceEqDiff, Option.toList_some, Option.toList_none, List.cons_append, List.nil_append, h1, ck_e]
    refine sp_callV hz (c_Chunk_dataLength l G) (ci := 1) (As := []) (rest := [.int (nI key.length), .ref rm]) rfl w_Chunk_70 (by decide) h1 rfl (Nat.le_of_ble_eq_true rfl) d_Chunk_number_9 ⟨c, sh, key, data, fl, tk, gn, nw, ol, rm, rch, cap, rfl, hc, ?_⟩ rfl
    refine sp_callV hz (c_Text_number l G) (ci := 0) (As := [.int (nI key.length), .int (nI data.length)]) (rest := []) rfl w_Chunk_77 (by decide) hc.2.1 rfl (Nat.le_of_ble_eq_true rfl) d_Chunk_number_12 ⟨rm, rch, cap, _, key.length, data.length, rfl, hc.2, by omega, hn.1.2, (pu_all_seg _ _ _ _).mp hn.2, ?_⟩ rfl
    rw [pu_seg_r, pu_seg_all]
    exact sp_iret hz d_Chunk_number_15 (Nat.le_refl _) (Nat.le_refl _) hp
def T_Chunk_addKeyTo (G : sp_G) : sp_T := fun av M Post => ∃ c sh key data fl tk gn nw ol rm rch cap t ch cap2 s, av = [.ref c, .ref t] ∧ ck G M c sh key data fl tk gn nw ol rm rch cap ∧ tx G M t ch cap2 s ∧ rm ≠ t ∧ rch ≠ ch ∧ ∀ M', tx G M' t ch cap2 (pu_app cap2 s key) → off2 M M' t ch → Post none M'
set_option maxHeartbeats 4000000 in
set_option maxRecDepth 100000 in
theorem c_Chunk_addKeyTo (l : Launch) (G : sp_G) : sp_Met l G y_Chunk_addKeyTo b_Chunk_addKeyTo 2 none { frames := 2, locals := 45 } (T_Chunk_addKeyTo G) := by
  refine sp_entry (by decide) (fun av M Post h => ?_) (fun z M av Post hz _ hT => ?_)
  · obtain ⟨c, sh, key, data, fl, tk, gn, nw, ol, rm, rch, cap, t, ch, cap2, s, rfl, -⟩ := h
    exact Nat.le_of_ble_eq_true rfl
  · obtain ⟨c, sh, key, data, fl, tk, gn, nw, ol, rm, rch, cap, t, ch, cap2, s, rfl, hc, ht, hne, hnc, hp⟩ := hT
    have h1 := hc.1
    have hlen := hc.len
    refine sp_run hz _ _ e_Chunk_addKeyTo_0 _ _ _ ?_
    simp only [k_Chunk_addKeyTo_0, E_nil, E_iconst, E_bipush, E_sipush, E_ldc, E_ldc2, E_lconst, E_null, E_iload_n, E_lload_n, E_aload_n, E_istore_n, E_lstore_n, E_astore_n, E_astoreN_n, E_iload, E_lload, E_aload, E_istore, E_lstore, E_astore, E_astoreN, E_ldi, E_ldl, E_lda, E_ldN, E_iinc, E_iadd, E_isub, E_imul, E_iand, E_ior, E_ixor, E_ishl, E_ishr, E_idiv, E_irem, E_ineg, E_ladd, E_lsub, E_land, E_lor, E_lcmp, E_lshl, E_lshr, E_lushr, E_i2l, E_l2i, E_i2c, E_dupI, E_popI, E_dup_x1II, E_dup2II, E_dup_x1IR, E_dup2IR, E_dup_x1IN, E_dup2IN, E_dupR, E_popR, E_dup_x1RI, E_dup2RI, E_dup_x1RR, E_dup2RR, E_dup_x1RN, E_dup2RN, E_dupN, E_popN, E_dup_x1NI, E_dup2NI, E_dup_x1NR, E_dup2NR, E_dup_x1NN, E_dup2NN, E_goto, E_if_eq, E_if_ne, E_if_lt, E_if_ge, E_if_gt, E_if_le, E_ic_eq, E_ic_ne, E_ic_lt, E_ic_ge, E_ic_gt, E_ic_le, E_ifnull, E_ifnullN, E_ifnonnull, E_ifnonnullN, E_get, E_gf, E_xv, E_n0, E_ns, E_putI, E_putR, E_putN, E_pf, E_st0, E_sts, E_iaload, E_caload, E_laload, E_aaload, E_alen, E_iast, E_cast, E_last, E_xI, E_xJ, E_xQ, E_xN, E_lk, E_lkn, E_s1, E_s1h, E_s1I, E_s1R, E_s1N, E_s1L, E_s2, E_s2h, E_s2L, E_s2I, E_s2R, E_s2N, E_a1, E_a0, E_aI, E_aR, E_aN, E_aL, Option.isSome_some, eq_self, true_and, and_true, true_or, or_true, ne_eq, not_false_eq_true, not_true_eq_false, reduceIte, reduceCtorEq, Nat.reduceAdd, Nat.reduceBEq, Nat.reduceEqDiff, Option.toList_some, Option.toList_none, List.cons_append, List.nil_append, h1, ck_e]
    refine sp_callV hz (c_Text_addPart l G) (ci := 0) (As := [.ref rm, .int (nI 0), .int (nI key.length)]) (rest := []) rfl w_Chunk_57 (by decide) ht.1 rfl (Nat.le_of_ble_eq_true rfl) d_Chunk_addKeyTo_10 ⟨t, ch, cap2, s, rm, rch, cap, _, 0, key.length, rfl, ht, hc.2, hne, hnc, by decide, by omega, fun M' h2 ho => ?_⟩ rfl
    rw [pu_seg_l] at h2
    exact sp_vret hz d_Chunk_addKeyTo_13 (Nat.le_refl _) (Nat.le_refl _) (hp M' h2 ho)
def T_Chunk_addDataTo (G : sp_G) : sp_T := fun av M Post => ∃ c sh key data fl tk gn nw ol rm rch cap t ch cap2 s, av = [.ref c, .ref t] ∧ ck G M c sh key data fl tk gn nw ol rm rch cap ∧ tx G M t ch cap2 s ∧ rm ≠ t ∧ rch ≠ ch ∧ ∀ M', tx G M' t ch cap2 (pu_app cap2 s data) → off2 M M' t ch → Post none M'
set_option maxHeartbeats 4000000 in
set_option maxRecDepth 100000 in
theorem c_Chunk_addDataTo (l : Launch) (G : sp_G) : sp_Met l G y_Chunk_addDataTo b_Chunk_addDataTo 2 none { frames := 2, locals := 45 } (T_Chunk_addDataTo G) := by
  refine sp_entry (by decide) (fun av M Post h => ?_) (fun z M av Post hz _ hT => ?_)
  · obtain ⟨c, sh, key, data, fl, tk, gn, nw, ol, rm, rch, cap, t, ch, cap2, s, rfl, -⟩ := h
    exact Nat.le_of_ble_eq_true rfl
  · obtain ⟨c, sh, key, data, fl, tk, gn, nw, ol, rm, rch, cap, t, ch, cap2, s, rfl, hc, ht, hne, hnc, hp⟩ := hT
    have h1 := hc.1
    have hlen := hc.len
    refine sp_run hz _ _ e_Chunk_addDataTo_0 _ _ _ ?_
    simp only [k_Chunk_addDataTo_0, E_nil, E_iconst, E_bipush, E_sipush, E_ldc, E_ldc2, E_lconst, E_null, E_iload_n, E_lload_n, E_aload_n, E_istore_n, E_lstore_n, E_astore_n, E_astoreN_n, E_iload, E_lload, E_aload, E_istore, E_lstore, E_astore, E_astoreN, E_ldi, E_ldl, E_lda, E_ldN, E_iinc, E_iadd, E_isub, E_imul, E_iand, E_ior, E_ixor, E_ishl, E_ishr, E_idiv, E_irem, E_ineg, E_ladd, E_lsub, E_land, E_lor, E_lcmp, E_lshl, E_lshr, E_lushr, E_i2l, E_l2i, E_i2c, E_dupI, E_popI, E_dup_x1II, E_dup2II, E_dup_x1IR, E_dup2IR, E_dup_x1IN, E_dup2IN, E_dupR, E_popR, E_dup_x1RI, E_dup2RI, E_dup_x1RR, E_dup2RR, E_dup_x1RN, E_dup2RN, E_dupN, E_popN, E_dup_x1NI, E_dup2NI, E_dup_x1NR, E_dup2NR, E_dup_x1NN, E_dup2NN, E_goto, E_if_eq, E_if_ne, E_if_lt, E_if_ge, E_if_gt, E_if_le, E_ic_eq, E_ic_ne, E_ic_lt, E_ic_ge, E_ic_gt, E_ic_le, E_ifnull, E_ifnullN, E_ifnonnull, E_ifnonnullN, E_get, E_gf, E_xv, E_n0, E_ns, E_putI, E_putR, E_putN, E_pf, E_st0, E_sts, E_iaload, E_caload, E_laload, E_aaload, E_alen, E_iast, E_cast, E_last, E_xI, E_xJ, E_xQ, E_xN, E_lk, E_lkn, E_s1, E_s1h, E_s1I, E_s1R, E_s1N, E_s1L, E_s2, E_s2h, E_s2L, E_s2I, E_s2R, E_s2N, E_a1, E_a0, E_aI, E_aR, E_aN, E_aL, Option.isSome_some, eq_self, true_and, and_true, true_or, or_true, ne_eq, not_false_eq_true, not_true_eq_false, reduceIte, reduceCtorEq, Nat.reduceAdd, Nat.reduceBEq, Nat.reduceEqDiff, Option.toList_some, Option.toList_none, List.cons_append, List.nil_append, h1, ck_e]
    refine sp_callV hz (c_Chunk_dataLength l G) (ci := 1) (As := []) (rest := [.int (nI key.length), .ref rm, .ref t]) rfl w_Chunk_70 (by decide) h1 rfl (Nat.le_of_ble_eq_true rfl) d_Chunk_addDataTo_10 ⟨c, sh, key, data, fl, tk, gn, nw, ol, rm, rch, cap, rfl, hc, ?_⟩ rfl
    refine sp_callV hz (c_Text_addPart l G) (ci := 0) (As := [.ref rm, .int (nI key.length), .int (nI data.length)]) (rest := []) rfl w_Chunk_57 (by decide) ht.1 rfl (Nat.le_of_ble_eq_true rfl) d_Chunk_addDataTo_13 ⟨t, ch, cap2, s, rm, rch, cap, _, key.length, data.length, rfl, ht, hc.2, hne, hnc, by omega, by omega, fun M' h2 ho => ?_⟩ rfl
    rw [pu_seg_r, pu_seg_all] at h2
    exact sp_vret hz d_Chunk_addDataTo_16 (Nat.le_refl _) (Nat.le_refl _) (hp M' h2 ho)
def T_Chunk_hasKey (G : sp_G) : sp_T := fun av M Post => ∃ c sh key data fl tk gn nw ol rm rch cap t ch cap2 s st n, av = [.ref c, .ref t, .int (nI st), .int (nI n)] ∧ ck G M c sh key data fl tk gn nw ol rm rch cap ∧ tx G M t ch cap2 s ∧ st < 2 ^ 30 ∧ n < 2 ^ 30 ∧ Post (some (.int (b2i (decide (key = pu_seg s st n))))) M
set_option maxHeartbeats 4000000 in
set_option maxRecDepth 100000 in
theorem c_Chunk_hasKey (l : Launch) (G : sp_G) : sp_Met l G y_Chunk_hasKey b_Chunk_hasKey 5 (some .boolean) { frames := 1, locals := 21 } (T_Chunk_hasKey G) := by
  refine sp_entry (by decide) (fun av M Post h => ?_) (fun z M av Post hz _ hT => ?_)
  · obtain ⟨c, sh, key, data, fl, tk, gn, nw, ol, rm, rch, cap, t, ch, cap2, s, st, n, rfl, -⟩ := h
    exact Nat.le_of_ble_eq_true rfl
  · obtain ⟨c, sh, key, data, fl, tk, gn, nw, ol, rm, rch, cap, t, ch, cap2, s, st, n, rfl, hc, ht, hst, hn, hp⟩ := hT
    have h1 := hc.1
    have hlen := hc.len
    have loop : n = key.length → ∀ k i, n - i = k → i ≤ n → (∀ q, q < i → key.getD q 0 = s.getD (st + q) 0) → sp_W z G M (sp_Q z G M Post 0 0) 5 0 0 13 [(4, .int (nI i)), (0, .ref c), (1, .ref t), (2, .int (nI st)), (3, .int (nI n))] [] M := by
      intro hnl k
      induction k with
      | zero =>
        intro i hk hi hq
        have hi : i = n := by omega
        subst hi
        refine sp_run hz _ _ e_Chunk_hasKey_13 _ _ _ ?_
        simp only [k_Chunk_hasKey_13, E_nil, E_iconst, E_bipush, E_sipush, E_ldc, E_ldc2, E_lconst, E_null, E_iload_n, E_lload_n, E_aload_n, E_istore_n, E_lstore_n, E_astore_n, E_astoreN_n, E_iload, E_lload, E_aload, E_istore, E_lstore, E_astore, E_astoreN, E_ldi, E_ldl, E_lda, E_ldN, E_iinc, E_iadd, E_isub, E_imul, E_iand, E_ior, E_ixor, E_ishl, E_ishr, E_idiv, E_irem, E_ineg, E_ladd, E_lsub, E_land, E_lor, E_lcmp, E_lshl, E_lshr, E_lushr, E_i2l, E_l2i, E_i2c, E_dupI, E_popI, E_dup_x1II, E_dup2II, E_dup_x1IR, E_dup2IR, E_dup_x1IN, E_dup2IN, E_dupR, E_popR, E_dup_x1RI, E_dup2RI, E_dup_x1RR, E_dup2RR, E_dup_x1RN, E_dup2RN, E_dupN, E_popN, E_dup_x1NI, E_dup2NI, E_dup_x1NR, E_dup2NR, E_dup_x1NN, E_dup2NN, E_goto, E_if_eq, E_if_ne, E_if_lt, E_if_ge, E_if_gt, E_if_le, E_ic_eq, E_ic_ne, E_ic_lt, E_ic_ge, E_ic_gt, E_ic_le, E_ifnull, E_ifnullN, E_ifnonnull, E_ifnonnullN, E_get, E_gf, E_xv, E_n0, E_ns, E_putI, E_putR, E_putN, E_pf, E_st0, E_sts, E_iaload, E_caload, E_laload, E_aaload, E_alen, E_iast, E_cast, E_last, E_xI, E_xJ, E_xQ, E_xN, E_lk, E_lkn, E_s1, E_s1h, E_s1I, E_s1R, E_s1N, E_s1L, E_s2, E_s2h, E_s2L, E_s2I, E_s2R, E_s2N, E_a1, E_a0, E_aI, E_aR, E_aN, E_aL, Option.isSome_some, eq_self, true_and, and_true, true_or, or_true, ne_eq, not_false_eq_true, not_true_eq_false, reduceIte, reduceCtorEq, Nat.reduceAdd, Nat.reduceBEq, Nat.reduceEqDiff, Option.toList_some, Option.toList_none, List.cons_append, List.nil_append, h1, ck_e]
        refine ⟨fun _ => ?_, fun h => absurd (Int32.le_refl _) h⟩
        refine sp_run hz _ _ e_Chunk_hasKey_47 _ _ _ ?_
        simp only [k_Chunk_hasKey_47, E_nil, E_iconst, E_bipush, E_sipush, E_ldc, E_ldc2, E_lconst, E_null, E_iload_n, E_lload_n, E_aload_n, E_istore_n, E_lstore_n, E_astore_n, E_astoreN_n, E_iload, E_lload, E_aload, E_istore, E_lstore, E_astore, E_astoreN, E_ldi, E_ldl, E_lda, E_ldN, E_iinc, E_iadd, E_isub, E_imul, E_iand, E_ior, E_ixor, E_ishl, E_ishr, E_idiv, E_irem, E_ineg, E_ladd, E_lsub, E_land, E_lor, E_lcmp, E_lshl, E_lshr, E_lushr, E_i2l, E_l2i, E_i2c, E_dupI, E_popI, E_dup_x1II, E_dup2II, E_dup_x1IR, E_dup2IR, E_dup_x1IN, E_dup2IN, E_dupR, E_popR, E_dup_x1RI, E_dup2RI, E_dup_x1RR, E_dup2RR, E_dup_x1RN, E_dup2RN, E_dupN, E_popN, E_dup_x1NI, E_dup2NI, E_dup_x1NR, E_dup2NR, E_dup_x1NN, E_dup2NN, E_goto, E_if_eq, E_if_ne, E_if_lt, E_if_ge, E_if_gt, E_if_le, E_ic_eq, E_ic_ne, E_ic_lt, E_ic_ge, E_ic_gt, E_ic_le, E_ifnull, E_ifnullN, E_ifnonnull, E_ifnonnullN, E_get, E_gf, E_xv, E_n0, E_ns, E_putI, E_putR, E_putN, E_pf, E_st0, E_sts, E_iaload, E_caload, E_laload, E_aaload, E_alen, E_iast, E_cast, E_last, E_xI, E_xJ, E_xQ, E_xN, E_lk, E_lkn, E_s1, E_s1h, E_s1I, E_s1R, E_s1N, E_s1L, E_s2, E_s2h, E_s2L, E_s2I, E_s2R, E_s2N, E_a1, E_a0, E_aI, E_aR, E_aN, E_aL, Option.isSome_some, eq_self, true_and, and_true, true_or, or_true, ne_eq, not_false_eq_true, not_true_eq_false, reduceIte, reduceCtorEq, Nat.reduceAdd, Nat.reduceBEq, Nat.reduceEqDiff, Option.toList_some, Option.toList_none, List.cons_append, List.nil_append]
        have hy : key = pu_seg s st i := by
          rw [← pu_seg_all key, ← hnl]
          unfold pu_seg
          refine List.map_congr_left (fun q hq2 => ?_)
          rw [Nat.zero_add]
          exact hq q (List.mem_range.mp hq2)
        rw [decide_eq_true hy] at hp
        exact sp_zret hz d_Chunk_hasKey_48 rfl (Nat.le_refl _) (Nat.le_refl _) hp
      | succ k ih =>
        intro i hk hi hq
        refine sp_run hz _ _ e_Chunk_hasKey_13 _ _ _ ?_
        simp only [k_Chunk_hasKey_13, E_nil, E_iconst, E_bipush, E_sipush, E_ldc, E_ldc2, E_lconst, E_null, E_iload_n, E_lload_n, E_aload_n, E_istore_n, E_lstore_n, E_astore_n, E_astoreN_n, E_iload, E_lload, E_aload, E_istore, E_lstore, E_astore, E_astoreN, E_ldi, E_ldl, E_lda, E_ldN, E_iinc, E_iadd, E_isub, E_imul, E_iand, E_ior, E_ixor, E_ishl, E_ishr, E_idiv, E_irem, E_ineg, E_ladd, E_lsub, E_land, E_lor, E_lcmp, E_lshl, E_lshr, E_lushr, E_i2l, E_l2i, E_i2c, E_dupI, E_popI, E_dup_x1II, E_dup2II, E_dup_x1IR, E_dup2IR, E_dup_x1IN, E_dup2IN, E_dupR, E_popR, E_dup_x1RI, E_dup2RI, E_dup_x1RR, E_dup2RR, E_dup_x1RN, E_dup2RN, E_dupN, E_popN, E_dup_x1NI, E_dup2NI, E_dup_x1NR, E_dup2NR, E_dup_x1NN, E_dup2NN, E_goto, E_if_eq, E_if_ne, E_if_lt, E_if_ge, E_if_gt, E_if_le, E_ic_eq, E_ic_ne, E_ic_lt, E_ic_ge, E_ic_gt, E_ic_le, E_ifnull, E_ifnullN, E_ifnonnull, E_ifnonnullN, E_get, E_gf, E_xv, E_n0, E_ns, E_putI, E_putR, E_putN, E_pf, E_st0, E_sts, E_iaload, E_caload, E_laload, E_aaload, E_alen, E_iast, E_cast, E_last, E_xI, E_xJ, E_xQ, E_xN, E_lk, E_lkn, E_s1, E_s1h, E_s1I, E_s1R, E_s1N, E_s1L, E_s2, E_s2h, E_s2L, E_s2I, E_s2R, E_s2N, E_a1, E_a0, E_aI, E_aR, E_aN, E_aL, Option.isSome_some, eq_self, true_and, and_true, true_or, or_true, ne_eq, not_false_eq_true, not_true_eq_false, reduceIte, reduceCtorEq, Nat.reduceAdd, Nat.reduceBEq, Nat.reduceEqDiff, Option.toList_some, Option.toList_none, List.cons_append, List.nil_append, h1, ck_e]
        refine ⟨fun h => absurd ((nI_leI (by omega) (by omega)).mp h) (by omega), fun _ => ?_⟩
        refine sp_callV hz (c_Text_at l G) (ci := 0) (As := [.int (nI i)]) (rest := []) rfl w_Chunk_66 (by decide) hc.2.1 rfl (Nat.le_of_ble_eq_true rfl) d_Chunk_hasKey_25 ⟨rm, rch, cap, _, i, rfl, hc.2, by omega, ?_⟩ rfl
        refine sp_run hz _ _ e_Chunk_hasKey_28 _ _ _ ?_
        simp only [k_Chunk_hasKey_28, E_nil, E_iconst, E_bipush, E_sipush, E_ldc, E_ldc2, E_lconst, E_null, E_iload_n, E_lload_n, E_aload_n, E_istore_n, E_lstore_n, E_astore_n, E_astoreN_n, E_iload, E_lload, E_aload, E_istore, E_lstore, E_astore, E_astoreN, E_ldi, E_ldl, E_lda, E_ldN, E_iinc, E_iadd, E_isub, E_imul, E_iand, E_ior, E_ixor, E_ishl, E_ishr, E_idiv, E_irem, E_ineg, E_ladd, E_lsub, E_land, E_lor, E_lcmp, E_lshl, E_lshr, E_lushr, E_i2l, E_l2i, E_i2c, E_dupI, E_popI, E_dup_x1II, E_dup2II, E_dup_x1IR, E_dup2IR, E_dup_x1IN, E_dup2IN, E_dupR, E_popR, E_dup_x1RI, E_dup2RI, E_dup_x1RR, E_dup2RR, E_dup_x1RN, E_dup2RN, E_dupN, E_popN, E_dup_x1NI, E_dup2NI, E_dup_x1NR, E_dup2NR, E_dup_x1NN, E_dup2NN, E_goto, E_if_eq, E_if_ne, E_if_lt, E_if_ge, E_if_gt, E_if_le, E_ic_eq, E_ic_ne, E_ic_lt, E_ic_ge, E_ic_gt, E_ic_le, E_ifnull, E_ifnullN, E_ifnonnull, E_ifnonnullN, E_get, E_gf, E_xv, E_n0, E_ns, E_putI, E_putR, E_putN, E_pf, E_st0, E_sts, E_iaload, E_caload, E_laload, E_aaload, E_alen, E_iast, E_cast, E_last, E_xI, E_xJ, E_xQ, E_xN, E_lk, E_lkn, E_s1, E_s1h, E_s1I, E_s1R, E_s1N, E_s1L, E_s2, E_s2h, E_s2L, E_s2I, E_s2R, E_s2N, E_a1, E_a0, E_aI, E_aR, E_aN, E_aL, Option.isSome_some, eq_self, true_and, and_true, true_or, or_true, ne_eq, not_false_eq_true, not_true_eq_false, reduceIte, reduceCtorEq, Nat.reduceAdd, Nat.reduceBEq, Nat.reduceEqDiff, Option.toList_some, Option.toList_none, List.cons_append, List.nil_append, nI_add]
        refine sp_callV hz (c_Text_at l G) (ci := 0) (As := [.int (nI (st + i))]) (rest := [.int (nI ((key ++ data).getD i 0))]) rfl w_Chunk_66 (by decide) ht.1 rfl (Nat.le_of_ble_eq_true rfl) d_Chunk_hasKey_33 ⟨t, ch, cap2, s, st + i, rfl, ht, by omega, ?_⟩ rfl
        have e1 : (key ++ data).getD i 0 = key.getD i 0 := pu_getD_app (by omega)
        have c1 := hc.2.ch i
        have c2 := ht.ch (st + i)
        rw [e1] at c1 ⊢
        refine sp_run hz _ _ e_Chunk_hasKey_36 _ _ _ ?_
        simp only [k_Chunk_hasKey_36, E_nil, E_iconst, E_bipush, E_sipush, E_ldc, E_ldc2, E_lconst, E_null, E_iload_n, E_lload_n, E_aload_n, E_istore_n, E_lstore_n, E_astore_n, E_astoreN_n, E_iload, E_lload, E_aload, E_istore, E_lstore, E_astore, E_astoreN, E_ldi, E_ldl, E_lda, E_ldN, E_iinc, E_iadd, E_isub, E_imul, E_iand, E_ior, E_ixor, E_ishl, E_ishr, E_idiv, E_irem, E_ineg, E_ladd, E_lsub, E_land, E_lor, E_lcmp, E_lshl, E_lshr, E_lushr, E_i2l, E_l2i, E_i2c, E_dupI, E_popI, E_dup_x1II, E_dup2II, E_dup_x1IR, E_dup2IR, E_dup_x1IN, E_dup2IN, E_dupR, E_popR, E_dup_x1RI, E_dup2RI, E_dup_x1RR, E_dup2RR, E_dup_x1RN, E_dup2RN, E_dupN, E_popN, E_dup_x1NI, E_dup2NI, E_dup_x1NR, E_dup2NR, E_dup_x1NN, E_dup2NN, E_goto, E_if_eq, E_if_ne, E_if_lt, E_if_ge, E_if_gt, E_if_le, E_ic_eq, E_ic_ne, E_ic_lt, E_ic_ge, E_ic_gt, E_ic_le, E_ifnull, E_ifnullN, E_ifnonnull, E_ifnonnullN, E_get, E_gf, E_xv, E_n0, E_ns, E_putI, E_putR, E_putN, E_pf, E_st0, E_sts, E_iaload, E_caload, E_laload, E_aaload, E_alen, E_iast, E_cast, E_last, E_xI, E_xJ, E_xQ, E_xN, E_lk, E_lkn, E_s1, E_s1h, E_s1I, E_s1R, E_s1N, E_s1L, E_s2, E_s2h, E_s2L, E_s2I, E_s2R, E_s2N, E_a1, E_a0, E_aI, E_aR, E_aN, E_aL, Option.isSome_some, eq_self, true_and, and_true, true_or, or_true, ne_eq, not_false_eq_true, not_true_eq_false, reduceIte, reduceCtorEq, Nat.reduceAdd, Nat.reduceBEq, Nat.reduceEqDiff, Option.toList_some, Option.toList_none, List.cons_append, List.nil_append]
        refine ⟨fun h => ?_, fun h => ?_⟩
        · have he := (nI_eq (by omega) (by omega)).mp h
          refine sp_run hz _ _ e_Chunk_hasKey_41 _ _ _ ?_
          simp only [k_Chunk_hasKey_41, E_nil, E_iconst, E_bipush, E_sipush, E_ldc, E_ldc2, E_lconst, E_null, E_iload_n, E_lload_n, E_aload_n, E_istore_n, E_lstore_n, E_astore_n, E_astoreN_n, E_iload, E_lload, E_aload, E_istore, E_lstore, E_astore, E_astoreN, E_ldi, E_ldl, E_lda, E_ldN, E_iinc, E_iadd, E_isub, E_imul, E_iand, E_ior, E_ixor, E_ishl, E_ishr, E_idiv, E_irem, E_ineg, E_ladd, E_lsub, E_land, E_lor, E_lcmp, E_lshl, E_lshr, E_lushr, E_i2l, E_l2i, E_i2c, E_dupI, E_popI, E_dup_x1II, E_dup2II, E_dup_x1IR, E_dup2IR, E_dup_x1IN, E_dup2IN, E_dupR, E_popR, E_dup_x1RI, E_dup2RI, E_dup_x1RR, E_dup2RR, E_dup_x1RN, E_dup2RN, E_dupN, E_popN, E_dup_x1NI, E_dup2NI, E_dup_x1NR, E_dup2NR, E_dup_x1NN, E_dup2NN, E_goto, E_if_eq, E_if_ne, E_if_lt, E_if_ge, E_if_gt, E_if_le, E_ic_eq, E_ic_ne, E_ic_lt, E_ic_ge, E_ic_gt, E_ic_le, E_ifnull, E_ifnullN, E_ifnonnull, E_ifnonnullN, E_get, E_gf, E_xv, E_n0, E_ns, E_putI, E_putR, E_putN, E_pf, E_st0, E_sts, E_iaload, E_caload, E_laload, E_aaload, E_alen, E_iast, E_cast, E_last, E_xI, E_xJ, E_xQ, E_xN, E_lk, E_lkn, E_s1, E_s1h, E_s1I, E_s1R, E_s1N, E_s1L, E_s2, E_s2h, E_s2L, E_s2I, E_s2R, E_s2N, E_a1, E_a0, E_aI, E_aR, E_aN, E_aL, Option.isSome_some, eq_self, true_and, and_true, true_or, or_true, ne_eq, not_false_eq_true, not_true_eq_false, reduceIte, reduceCtorEq, Nat.reduceAdd, Nat.reduceBEq, Nat.reduceEqDiff, Option.toList_some, Option.toList_none, List.cons_append, List.nil_append, nI_1]
          refine ih (i + 1) (by omega) (by omega) (fun q hq2 => ?_)
          by_cases hqi : q = i
          · subst hqi
            exact he
          · exact hq q (by omega)
        · have hno : ¬ key = pu_seg s st n := by
            intro e
            have : key.getD i 0 = (pu_seg s st n).getD i 0 := by rw [← e]
            unfold pu_seg at this
            rw [List.getD_eq_getElem?_getD (l := List.map _ _), List.getElem?_map, List.getElem?_range (by omega)] at this
            exact h (by rw [this]; rfl)
          rw [decide_eq_false hno] at hp
          exact sp_zret hz d_Chunk_hasKey_40 rfl (Nat.le_refl _) (Nat.le_refl _) hp
    refine sp_run hz _ _ e_Chunk_hasKey_0 _ _ _ ?_
    simp only [k_Chunk_hasKey_0, E_nil, E_iconst, E_bipush, E_sipush, E_ldc, E_ldc2, E_lconst, E_null, E_iload_n, E_lload_n, E_aload_n, E_istore_n, E_lstore_n, E_astore_n, E_astoreN_n, E_iload, E_lload, E_aload, E_istore, E_lstore, E_astore, E_astoreN, E_ldi, E_ldl, E_lda, E_ldN, E_iinc, E_iadd, E_isub, E_imul, E_iand, E_ior, E_ixor, E_ishl, E_ishr, E_idiv, E_irem, E_ineg, E_ladd, E_lsub, E_land, E_lor, E_lcmp, E_lshl, E_lshr, E_lushr, E_i2l, E_l2i, E_i2c, E_dupI, E_popI, E_dup_x1II, E_dup2II, E_dup_x1IR, E_dup2IR, E_dup_x1IN, E_dup2IN, E_dupR, E_popR, E_dup_x1RI, E_dup2RI, E_dup_x1RR, E_dup2RR, E_dup_x1RN, E_dup2RN, E_dupN, E_popN, E_dup_x1NI, E_dup2NI, E_dup_x1NR, E_dup2NR, E_dup_x1NN, E_dup2NN, E_goto, E_if_eq, E_if_ne, E_if_lt, E_if_ge, E_if_gt, E_if_le, E_ic_eq, E_ic_ne, E_ic_lt, E_ic_ge, E_ic_gt, E_ic_le, E_ifnull, E_ifnullN, E_ifnonnull, E_ifnonnullN, E_get, E_gf, E_xv, E_n0, E_ns, E_putI, E_putR, E_putN, E_pf, E_st0, E_sts, E_iaload, E_caload, E_laload, E_aaload, E_alen, E_iast, E_cast, E_last, E_xI, E_xJ, E_xQ, E_xN, E_lk, E_lkn, E_s1, E_s1h, E_s1I, E_s1R, E_s1N, E_s1L, E_s2, E_s2h, E_s2L, E_s2I, E_s2R, E_s2N, E_a1, E_a0, E_aI, E_aR, E_aN, E_aL, Option.isSome_some, eq_self, true_and, and_true, true_or, or_true, ne_eq, not_false_eq_true, not_true_eq_false, reduceIte, reduceCtorEq, Nat.reduceAdd, Nat.reduceBEq, Nat.reduceEqDiff, Option.toList_some, Option.toList_none, List.cons_append, List.nil_append, h1, ck_e]
    refine ⟨fun h => ?_, fun h => ?_⟩
    · have he : key.length = n := (nI_eq (by omega) (by omega)).mp h
      refine sp_run hz _ _ e_Chunk_hasKey_10 _ _ _ ?_
      simp only [k_Chunk_hasKey_10, E_nil, E_iconst, E_bipush, E_sipush, E_ldc, E_ldc2, E_lconst, E_null, E_iload_n, E_lload_n, E_aload_n, E_istore_n, E_lstore_n, E_astore_n, E_astoreN_n, E_iload, E_lload, E_aload, E_istore, E_lstore, E_astore, E_astoreN, E_ldi, E_ldl, E_lda, E_ldN, E_iinc, E_iadd, E_isub, E_imul, E_iand, E_ior, E_ixor, E_ishl, E_ishr, E_idiv, E_irem, E_ineg, E_ladd, E_lsub, E_land, E_lor, E_lcmp, E_lshl, E_lshr, E_lushr, E_i2l, E_l2i, E_i2c, E_dupI, E_popI, E_dup_x1II, E_dup2II, E_dup_x1IR, E_dup2IR, E_dup_x1IN, E_dup2IN, E_dupR, E_popR, E_dup_x1RI, E_dup2RI, E_dup_x1RR, E_dup2RR, E_dup_x1RN, E_dup2RN, E_dupN, E_popN, E_dup_x1NI, E_dup2NI, E_dup_x1NR, E_dup2NR, E_dup_x1NN, E_dup2NN, E_goto, E_if_eq, E_if_ne, E_if_lt, E_if_ge, E_if_gt, E_if_le, E_ic_eq, E_ic_ne, E_ic_lt, E_ic_ge, E_ic_gt, E_ic_le, E_ifnull, E_ifnullN, E_ifnonnull, E_ifnonnullN, E_get, E_gf, E_xv, E_n0, E_ns, E_putI, E_putR, E_putN, E_pf, E_st0, E_sts, E_iaload, E_caload, E_laload, E_aaload, E_alen, E_iast, E_cast, E_last, E_xI, E_xJ, E_xQ, E_xN, E_lk, E_lkn, E_s1, E_s1h, E_s1I, E_s1R, E_s1N, E_s1L, E_s2, E_s2h, E_s2L, E_s2I, E_s2R, E_s2N, E_a1, E_a0, E_aI, E_aR, E_aN, E_aL, Option.isSome_some, eq_self, true_and, and_true, true_or, or_true, ne_eq, not_false_eq_true, not_true_eq_false, reduceIte, reduceCtorEq, Nat.reduceAdd, Nat.reduceBEq, Nat.reduceEqDiff, Option.toList_some, Option.toList_none, List.cons_append, List.nil_append]
      exact loop he.symm n 0 rfl (Nat.zero_le _) (fun q hq => absurd hq (Nat.not_lt_zero q))
    · have hno : ¬ key = pu_seg s st n := by
        intro e
        exact h (by rw [e, pu_seg_len])
      rw [decide_eq_false hno] at hp
      exact sp_zret hz d_Chunk_hasKey_9 rfl (Nat.le_refl _) (Nat.le_refl _) hp
