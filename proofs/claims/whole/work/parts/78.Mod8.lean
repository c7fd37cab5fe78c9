/-! The model's items: use, take away, give way. -/
def dIt : It × Nat := (([], [], 0, 0, 0), 0)
def rmx (i : Nat) (R : List (It × Nat)) : List (It × Nat) := (R.set i (R.getD (R.length - 1) dIt)).dropLast
theorem rmx_len (i : Nat) (R : List (It × Nat)) : (rmx i R).length = R.length - 1 := by simp [rmx]
theorem rmx_at {R : List (It × Nat)} {n i : Nat} (hn : R.length = n + 1) (hi : i ≤ n) {j : Nat} {x : It × Nat} (h : (rmx i R)[j]? = some x) : j < n ∧ ((j = i ∧ R[n]? = some x) ∨ (j ≠ i ∧ R[j]? = some x)) := by
  have hj : j < n := by
    have := (List.getElem?_eq_some_iff.mp h).1
    rw [rmx_len] at this
    omega
  refine ⟨hj, ?_⟩
  unfold rmx at h
  rw [List.getElem?_dropLast, if_pos (by rw [List.length_set]; omega)] at h
  by_cases e : j = i
  · subst e
    rw [List.getElem?_set_self (by omega)] at h
    refine Or.inl ⟨rfl, ?_⟩
    rw [List.getD_eq_getElem?_getD, hn, Nat.add_sub_cancel, List.getElem?_eq_getElem (show n < R.length by omega)] at h
    rw [List.getElem?_eq_getElem (show n < R.length by omega)]
    exact h
  · rw [List.getElem?_set_ne (Ne.symm e)] at h
    exact Or.inr ⟨e, h⟩
def T_Mod_use (G : sp_G) : sp_T := fun av M Post => ∃ B s a R pg ws fr V i x, av = [.ref (B 0), .int (nI i)] ∧ rS G M B s a R pg ws fr V ∧ R[i]? = some x ∧ V 16 + 1 < 2 ^ 31 ∧ ∀ M', rS G M' B s a (R.set i (x.1, V 16 + 1)) pg ws fr (up V 16 (V 16 + 1)) → rfr B M M' → Post none M'
set_option maxHeartbeats 4000000 in
set_option maxRecDepth 100000 in
theorem c_Mod_use (l : Launch) (G : sp_G) : sp_Met l G y_Mod_use b_Mod_use 2 none {} (T_Mod_use G) := by
  refine sp_entry (by decide) (fun av M Post h => ?_) (fun z M av Post hz _ hT => ?_)
  · obtain ⟨B, s, a, R, pg, ws, fr, V, i, x, rfl, -⟩ := h
    exact Nat.le_of_ble_eq_true rfl
  · obtain ⟨B, s, a, R, pg, ws, fr, V, i, x, rfl, ⟨F, K, h0, ⟨l1, l3, l5, l21, l25⟩, ⟨t2, t4, t26, tw, ti, tp⟩, ⟨b1, b2, b3, b4, b5⟩, hch, hit, hr⟩, hx, hv, hp⟩ := hT
    have h12 : M (B 12) = some (.inl (G.2.1 1, 48, .inl (F 12))) := h0.a 12 rfl
    have n12 := h0.ne 12 0 rfl rfl (by decide)
    have hlt := (List.getElem?_eq_some_iff.mp hx).1
    have hin : vp_in (nI i) 48 := nI_in (by omega) (by decide)
    refine sp_run hz _ _ e_Mod_use_0 _ _ _ ?_
    simp only [k_Mod_use_0, E_nil, E_iconst, E_bipush, E_sipush, E_ldc, E_ldc2, E_lconst, E_null, E_iload_n, E_lload_n, E_aload_n, E_istore_n, E_lstore_n, E_astore_n, E_astoreN_n, E_iload, E_lload, E_aload, E_istore, E_lstore, E_astore, E_astoreN, E_ldi, E_ldl, E_lda, E_ldN, E_iinc, E_iadd, E_isub, E_imul, E_iand, E_ior, E_ixor, E_ishl, E_ishr, E_idiv, E_irem, E_ineg, E_ladd, E_lsub, E_land, E_lor, E_lcmp, E_lshl, E_lshr, E_lushr, E_i2l, E_l2i, E_i2c, E_dupI, E_popI, E_dup_x1II, E_dup2II, E_dup_x1IR, E_dup2IR, E_dup_x1IN, E_dup2IN, E_dupR, E_popR, E_dup_x1RI, E_dup2RI, E_dup_x1RR, E_dup2RR, E_dup_x1RN, E_dup2RN, E_dupN, E_popN, E_dup_x1NI, E_dup2NI, E_dup_x1NR, E_dup2NR, E_dup_x1NN, E_dup2NN, E_goto, E_if_eq, E_if_ne, E_if_lt, E_if_ge, E_if_gt, E_if_le, E_ic_eq, E_ic_ne, E_ic_lt, E_ic_ge, E_ic_gt, E_ic_le, E_ifnull, E_ifnullN, E_ifnonnull, E_ifnonnullN, E_get, E_gf, E_xv, E_n0, E_ns, E_putI, E_putR, E_putN, E_pf, E_st0, E_sts, E_iaload, E_caload, E_laload, E_aaload, E_alen, E_iast, E_cast, E_last, E_xI, E_xJ, E_xQ, E_xN, E_lk, E_lkn, E_s1, E_s1h, E_s1I, E_s1R, E_s1N, E_s1L, E_s2, E_s2h, E_s2L, E_s2I, E_s2R, E_s2N, E_a1, E_a0, E_aI, E_aR, E_aN, E_aL, Option.isSome_some, eq_self, true_and, and_true, true_or, or_true, ne_eq, not_false_eq_true, not_true_eq_false, reduceIte, reduceCtorEq, Nat.reduceAdd, Nat.reduceBEq, Nat.reduceEqDiff, Option.toList_some, Option.toList_none, List.cons_append, List.nil_append, h0.o, h12, rn_16, rn_12, nI_1, rs_16, sp_u_s, sp_u_n _ _ n12, up_s, hin, nI_clamp (show i < 2 ^ 31 by omega)]
    refine sp_vret hz d_Mod_use_20 (Nat.le_refl _) (Nat.le_refl _) (hp _ ⟨_, K, (h0.fld _).arr (j := 12) rfl _, ⟨l1, l3, by rw [List.length_set]; exact l5, l21, l25⟩, ⟨t2, t4, t26, tw, fun j y hj => ?_, tp⟩, ⟨b1, b2, by rw [List.length_set]; exact b3, b4, b5⟩, hch, fun y hy => ?_, hr⟩ (((rfr.refl B M).u (j := 0) rfl).u (j := 12) rfl))
    · by_cases e : j = i
      · subst e
        rw [List.getElem?_set_self hlt] at hj
        cases hj
        obtain ⟨tk, tf, tl, tt, tg, tu, td⟩ := ti j x hx
        exact ⟨tk, tf, tl, tt, tg, pk_us, td⟩
      · rw [List.getElem?_set_ne (Ne.symm e)] at hj
        obtain ⟨tk, tf, tl, tt, tg, tu, td⟩ := ti j y hj
        exact ⟨tk, tf, tl, tt, tg, (pk_un e).trans tu, td⟩
    · rcases List.mem_or_eq_of_mem_set hy with h | h
      · exact hit y h
      · rw [h]
        exact ⟨(hit x (List.mem_of_getElem? hx)).1, Nat.lt_trans hv (by decide)⟩
def T_Mod_takeAway (G : sp_G) : sp_T := fun av M Post => ∃ B s a R pg ws fr V i, av = [.ref (B 0), .int (nI i)] ∧ rS G M B s a R pg ws fr V ∧ i < R.length ∧ ∀ M', rS G M' B s a (rmx i R) pg ws fr (up V 5 (R.length - 1)) → rfr B M M' → Post none M'
set_option maxHeartbeats 4000000 in
set_option maxRecDepth 100000 in
theorem c_Mod_takeAway (l : Launch) (G : sp_G) : sp_Met l G y_Mod_takeAway b_Mod_takeAway 3 none {} (T_Mod_takeAway G) := by
  refine sp_entry (by decide) (fun av M Post h => ?_) (fun z M av Post hz _ hT => ?_)
  · obtain ⟨B, s, a, R, pg, ws, fr, V, i, rfl, -⟩ := h
    exact Nat.le_of_ble_eq_true rfl
  · obtain ⟨B, s, a, R, pg, ws, fr, V, i, rfl, ⟨F, K, h0, ⟨l1, l3, l5, l21, l25⟩, ⟨t2, t4, t26, tw, ti, tp⟩, ⟨b1, b2, b3, b4, b5⟩, hch, hit, hr⟩, hi, hp⟩ := hT
    obtain ⟨n, hn⟩ : ∃ n, R.length = n + 1 := ⟨R.length - 1, by omega⟩
    have v5 : V 5 = n + 1 := l5.trans hn
    have h6 := h0.k
    have h7 : M (B 7) = some (.inl (G.2.1 1, 48, .inl (F 7))) := h0.a 7 rfl
    have h8 : M (B 8) = some (.inl (G.2.1 1, 48, .inl (F 8))) := h0.a 8 rfl
    have h10 : M (B 10) = some (.inl (G.2.1 1, 48, .inl (F 10))) := h0.a 10 rfl
    have h11 : M (B 11) = some (.inl (G.2.1 1, 48, .inl (F 11))) := h0.a 11 rfl
    have h12 : M (B 12) = some (.inl (G.2.1 1, 48, .inl (F 12))) := h0.a 12 rfl
    have n0_6 := h0.ne 0 6 rfl rfl (by decide)
    have n0_7 := h0.ne 0 7 rfl rfl (by decide)
    have n0_8 := h0.ne 0 8 rfl rfl (by decide)
    have n0_10 := h0.ne 0 10 rfl rfl (by decide)
    have n0_11 := h0.ne 0 11 rfl rfl (by decide)
    have n0_12 := h0.ne 0 12 rfl rfl (by decide)
    have n6_0 := h0.ne 6 0 rfl rfl (by decide)
    have n7_0 := h0.ne 7 0 rfl rfl (by decide)
    have n7_6 := h0.ne 7 6 rfl rfl (by decide)
    have n8_0 := h0.ne 8 0 rfl rfl (by decide)
    have n8_6 := h0.ne 8 6 rfl rfl (by decide)
    have n8_7 := h0.ne 8 7 rfl rfl (by decide)
    have n10_0 := h0.ne 10 0 rfl rfl (by decide)
    have n10_6 := h0.ne 10 6 rfl rfl (by decide)
    have n10_7 := h0.ne 10 7 rfl rfl (by decide)
    have n10_8 := h0.ne 10 8 rfl rfl (by decide)
    have n11_0 := h0.ne 11 0 rfl rfl (by decide)
    have n11_6 := h0.ne 11 6 rfl rfl (by decide)
    have n11_7 := h0.ne 11 7 rfl rfl (by decide)
    have n11_8 := h0.ne 11 8 rfl rfl (by decide)
    have n11_10 := h0.ne 11 10 rfl rfl (by decide)
    have n12_0 := h0.ne 12 0 rfl rfl (by decide)
    have n12_6 := h0.ne 12 6 rfl rfl (by decide)
    have n12_7 := h0.ne 12 7 rfl rfl (by decide)
    have n12_8 := h0.ne 12 8 rfl rfl (by decide)
    have n12_10 := h0.ne 12 10 rfl rfl (by decide)
    have n12_11 := h0.ne 12 11 rfl rfl (by decide)
    have hin : vp_in (nI i) 48 := nI_in (by omega) (by decide)
    have hinn : vp_in (nI n) 48 := nI_in (by omega) (by decide)
    have ci := nI_clamp (show i < 2 ^ 31 by omega)
    have cnn := nI_clamp (show n < 2 ^ 31 by omega)
    -- the data
    have loop : ∀ m k (f9 : Nat → Int32) (F1 : Nat → Nat → Int32) (K1 : Nat → Int64) (V1 : Nat → Nat) M1 (L : sp_L), (∀ q ∈ [(0, .ref (B 0)), (1, .int (nI i)), (2, .int (nI k))], q ∈ L) → 64 - k = m → k ≤ 64 → F1 9 = f9 → rw0 G M1 B V1 F1 K1 → V1 5 = n → (∀ p, f9 p = if 64 * i ≤ p ∧ p < 64 * i + k then vp_nar .char (F 9 (64 * n + (p - 64 * i))) else F 9 p) → rfr B M M1 →
        (∀ M2 F2, rw0 G M2 B V1 F2 K1 → (∀ j, j ≠ 9 → F2 j = F1 j) → (∀ p, F2 9 p = if 64 * i ≤ p ∧ p < 64 * i + 64 then vp_nar .char (F 9 (64 * n + (p - 64 * i))) else F 9 p) → rfr B M M2 → Post none M2) → sp_W z G M (sp_Q z G M Post 0 0) 3 0 0 102 L [] M1 := by
      intro m
      induction m with
      | zero =>
        intro k f9 F1 K1 V1 M1 L hL hm hk e9 hw v5' hf9 hf hend
        refine sp_Lm _ hL ?_
        have ek : k = 64 := by omega
        subst ek
        refine sp_run hz _ _ e_Mod_takeAway_102 _ _ _ ?_
        simp only [k_Mod_takeAway_102, E_nil, E_iconst, E_bipush, E_sipush, E_ldc, E_ldc2, E_lconst, E_null, E_iload_n, E_lload_n, E_aload_n, E_istore_n, E_lstore_n, E_astore_n, E_astoreN_n, E_iload, E_lload, E_aload, E_istore, E_lstore, E_astore, E_astoreN, E_ldi, E_ldl, E_lda, E_ldN, E_iinc, E_iadd, E_isub, E_imul, E_iand, E_ior, E_ixor, E_ishl, E_ishr, E_idiv, E_irem, E_ineg, E_ladd, E_lsub, E_land, E_lor, E_lcmp, E_lshl, E_lshr, E_lushr, E_i2l, E_l2i, E_i2c, E_dupI, E_popI, E_dup_x1II, E_dup2II, E_dup_x1IR, E_dup2IR, E_dup_x1IN, E_dup2IN, E_dupR, E_popR, E_dup_x1RI, E_dup2RI, E_dup_x1RR, E_dup2RR, E_dup_x1RN, E_dup2RN, E_dupN, E_popN, E_dup_x1NI, E_dup2NI, E_dup_x1NR, E_dup2NR, E_dup_x1NN, E_dup2NN, E_goto, E_if_eq, E_if_ne, E_if_lt, E_if_ge, E_if_gt, E_if_le, E_ic_eq, E_ic_ne, E_ic_lt, E_ic_ge, E_ic_gt, E_ic_le, E_ifnull, E_ifnullN, E_ifnonnull, E_ifnonnullN, E_get, E_gf, E_xv, E_n0, E_ns, E_putI, E_putR, E_putN, E_pf, E_st0, E_sts, E_iaload, E_caload, E_laload, E_aaload, E_alen, E_iast, E_cast, E_last, E_xI, E_xJ, E_xQ, E_xN, E_lk, E_lkn, E_s1, E_s1h, E_s1I, E_s1R, E_s1N, E_s1L, E_s2, E_s2h, E_s2L, E_s2I, E_s2R, E_s2N, E_a1, E_a0, E_aI, E_aR, E_aN, E_aL, Option.isSome_some, eq_self, true_and, and_true, true_or, or_true, ne_eq, not_false_eq_true, not_true_eq_false, reduceIte, reduceCtorEq, Nat.reduceAdd, Nat.reduceBEq, Nat.reduceEqDiff, Option.toList_some, Option.toList_none, List.cons_append, List.nil_append]
        exact ⟨fun _ => sp_vret hz d_Mod_takeAway_139 (Nat.le_refl _) (Nat.le_refl _) (hend M1 F1 hw (fun _ _ => rfl) (by rw [e9]; exact hf9) hf), fun h => absurd (by decide) h⟩
      | succ m ih =>
        intro k f9 F1 K1 V1 M1 L hL hm hk e9 hw v5' hf9 hf hend
        refine sp_Lm _ hL ?_
        have h9 : M1 (B 9) = some (.inl (G.2.1 0, 3072, .inl f9)) := by rw [← e9]; exact hw.a 9 rfl
        have e1 : (64 : Int32) * nI i + nI k = nI (64 * i + k) := by
          rw [show (64 : Int32) * nI i = nI (64 * i) from pk_mul 64 i]
          exact (Int32.ofNat_add _ _).symm
        have e2 : (64 : Int32) * nI n + nI k = nI (64 * n + k) := by
          rw [show (64 : Int32) * nI n = nI (64 * n) from pk_mul 64 n]
          exact (Int32.ofNat_add _ _).symm
        have i1 : vp_in (nI (64 * i + k)) 3072 := nI_in (by omega) (by decide)
        have i2 : vp_in (nI (64 * n + k)) 3072 := nI_in (by omega) (by decide)
        have rd : f9 (64 * n + k) = F 9 (64 * n + k) := by
          rw [hf9, if_neg]
          intro q
          omega
        refine sp_run hz _ _ e_Mod_takeAway_102 _ _ _ ?_
        simp only [k_Mod_takeAway_102, E_nil, E_iconst, E_bipush, E_sipush, E_ldc, E_ldc2, E_lconst, E_null, E_iload_n, E_lload_n, E_aload_n, E_istore_n, E_lstore_n, E_astore_n, E_astoreN_n, E_iload, E_lload, E_aload, E_istore, E_lstore, E_astore, E_astoreN, E_ldi, E_ldl, E_lda, E_ldN, E_iinc, E_iadd, E_isub, E_imul, E_iand, E_ior, E_ixor, E_ishl, E_ishr, E_idiv, E_irem, E_ineg, E_ladd, E_lsub, E_land, E_lor, E_lcmp, E_lshl, E_lshr, E_lushr, E_i2l, E_l2i, E_i2c, E_dupI, E_popI, E_dup_x1II, E_dup2II, E_dup_x1IR, E_dup2IR, E_dup_x1IN, E_dup2IN, E_dupR, E_popR, E_dup_x1RI, E_dup2RI, E_dup_x1RR, E_dup2RR, E_dup_x1RN, E_dup2RN, E_dupN, E_popN, E_dup_x1NI, E_dup2NI, E_dup_x1NR, E_dup2NR, E_dup_x1NN, E_dup2NN, E_goto, E_if_eq, E_if_ne, E_if_lt, E_if_ge, E_if_gt, E_if_le, E_ic_eq, E_ic_ne, E_ic_lt, E_ic_ge, E_ic_gt, E_ic_le, E_ifnull, E_ifnullN, E_ifnonnull, E_ifnonnullN, E_get, E_gf, E_xv, E_n0, E_ns, E_putI, E_putR, E_putN, E_pf, E_st0, E_sts, E_iaload, E_caload, E_laload, E_aaload, E_alen, E_iast, E_cast, E_last, E_xI, E_xJ, E_xQ, E_xN, E_lk, E_lkn, E_s1, E_s1h, E_s1I, E_s1R, E_s1N, E_s1L, E_s2, E_s2h, E_s2L, E_s2I, E_s2R, E_s2N, E_a1, E_a0, E_aI, E_aR, E_aN, E_aL, Option.isSome_some, eq_self, true_and, and_true, true_or, or_true, ne_eq, not_false_eq_true, not_true_eq_false, reduceIte, reduceCtorEq, Nat.reduceAdd, Nat.reduceBEq, Nat.reduceEqDiff, Option.toList_some, Option.toList_none, List.cons_append, List.nil_append, hw.o, h9, rn_9, rn_5, v5', e1, e2, i1, i2, nI_clamp (show 64 * i + k < 2 ^ 31 by omega), nI_clamp (show 64 * n + k < 2 ^ 31 by omega), rd, nI_1]
        refine ⟨fun h => absurd ((nI_leI (a := 64) (by decide) (by omega)).mp h) (by omega), fun _ => ?_⟩
        refine ih (k + 1) (upd f9 (64 * i + k) (vp_nar .char (F 9 (64 * n + k)))) (fun j => if j = 9 then upd f9 (64 * i + k) (vp_nar .char (F 9 (64 * n + k))) else F1 j) K1 V1 _ _ (by simp) (by omega) (by omega) (if_pos rfl) (hw.arr (j := 9) rfl _) v5' (fun p => ?_) (hf.u (j := 9) rfl) (fun M2 F2 q1 q2 q3 q4 => hend M2 F2 q1 (fun j hj => (q2 j hj).trans (if_neg hj)) q3 q4)
        by_cases e : p = 64 * i + k
        · subst e
          rw [pk_us, if_pos ⟨by omega, by omega⟩, Nat.add_sub_cancel_left]
        · rw [pk_un e, hf9]
          by_cases q : 64 * i ≤ p ∧ p < 64 * i + k
          · rw [if_pos q, if_pos ⟨q.1, by omega⟩]
          · rw [if_neg q, if_neg (fun w => q ⟨w.1, by omega⟩)]
    refine sp_run hz _ _ e_Mod_takeAway_0 _ _ _ ?_
    simp only [k_Mod_takeAway_0, E_nil, E_iconst, E_bipush, E_sipush, E_ldc, E_ldc2, E_lconst, E_null, E_iload_n, E_lload_n, E_aload_n, E_istore_n, E_lstore_n, E_astore_n, E_astoreN_n, E_iload, E_lload, E_aload, E_istore, E_lstore, E_astore, E_astoreN, E_ldi, E_ldl, E_lda, E_ldN, E_iinc, E_iadd, E_isub, E_imul, E_iand, E_ior, E_ixor, E_ishl, E_ishr, E_idiv, E_irem, E_ineg, E_ladd, E_lsub, E_land, E_lor, E_lcmp, E_lshl, E_lshr, E_lushr, E_i2l, E_l2i, E_i2c, E_dupI, E_popI, E_dup_x1II, E_dup2II, E_dup_x1IR, E_dup2IR, E_dup_x1IN, E_dup2IN, E_dupR, E_popR, E_dup_x1RI, E_dup2RI, E_dup_x1RR, E_dup2RR, E_dup_x1RN, E_dup2RN, E_dupN, E_popN, E_dup_x1NI, E_dup2NI, E_dup_x1NR, E_dup2NR, E_dup_x1NN, E_dup2NN, E_goto, E_if_eq, E_if_ne, E_if_lt, E_if_ge, E_if_gt, E_if_le, E_ic_eq, E_ic_ne, E_ic_lt, E_ic_ge, E_ic_gt, E_ic_le, E_ifnull, E_ifnullN, E_ifnonnull, E_ifnonnullN, E_get, E_gf, E_xv, E_n0, E_ns, E_putI, E_putR, E_putN, E_pf, E_st0, E_sts, E_iaload, E_caload, E_laload, E_aaload, E_alen, E_iast, E_cast, E_last, E_xI, E_xJ, E_xQ, E_xN, E_lk, E_lkn, E_s1, E_s1h, E_s1I, E_s1R, E_s1N, E_s1L, E_s2, E_s2h, E_s2L, E_s2I, E_s2R, E_s2N, E_a1, E_a0, E_aI, E_aR, E_aN, E_aL, Option.isSome_some, eq_self, true_and, and_true, true_or, or_true, ne_eq, not_false_eq_true, not_true_eq_false, reduceIte, reduceCtorEq, Nat.reduceAdd, Nat.reduceBEq, Nat.reduceEqDiff, Option.toList_some, Option.toList_none, List.cons_append, List.nil_append, h0.o, h6, h7, h8, h10, h11, h12, rn_5, rn_6, rn_7, rn_8, rn_10, rn_11, rn_12, v5, i_s1, rs_5, sp_u_s, sp_u_n _ _ n0_6, sp_u_n _ _ n0_7, sp_u_n _ _ n0_8, sp_u_n _ _ n0_10, sp_u_n _ _ n0_11, sp_u_n _ _ n0_12, sp_u_n _ _ n6_0, sp_u_n _ _ n7_0, sp_u_n _ _ n7_6, sp_u_n _ _ n8_0, sp_u_n _ _ n8_6, sp_u_n _ _ n8_7, sp_u_n _ _ n10_0, sp_u_n _ _ n10_6, sp_u_n _ _ n10_7, sp_u_n _ _ n10_8, sp_u_n _ _ n11_0, sp_u_n _ _ n11_6, sp_u_n _ _ n11_7, sp_u_n _ _ n11_8, sp_u_n _ _ n11_10, sp_u_n _ _ n12_0, sp_u_n _ _ n12_6, sp_u_n _ _ n12_7, sp_u_n _ _ n12_8, sp_u_n _ _ n12_10, sp_u_n _ _ n12_11, up_s, hin, hinn, ci, cnn]
    refine loop 64 0 (F 9) _ _ _ _ _ (by simp; rfl) rfl (by decide) ?_ (((((((h0.fld (up V 5 n)).key (vp_updL K i (K n))).arr (j := 7) rfl _).arr (j := 8) rfl _).arr (j := 10) rfl _).arr (j := 11) rfl _).arr (j := 12) rfl _) (up_s _ _ _) (fun p => by rw [if_neg (by omega)]) (((((((rfr.refl B M).u (j := 0) rfl).u (j := 6) rfl).u (j := 7) rfl).u (j := 8) rfl).u (j := 10) rfl).u (j := 11) rfl |>.u (j := 12) rfl) (fun M2 F2 hw hF h9 hf => ?_)
    · rfl
    refine hp M2 ?_ hf
    rw [hn, Nat.add_sub_cancel]
    refine ⟨F2, _, hw, ⟨l1, l3, by rw [rmx_len, hn]; rfl, l21, l25⟩, ⟨?_, ?_, ?_, ?_, fun j x hj => ?_, ?_⟩, ⟨b1, b2, by rw [rmx_len]; omega, b4, b5⟩, hch, fun x hx => ?_, hr⟩
    · rw [hF 2 (by decide)]; exact t2
    · rw [hF 4 (by decide)]; exact t4
    · rw [hF 26 (by decide)]; exact t26
    · intro j p hj
      rw [hF 22 (by decide), hF 23 (by decide)]
      exact tw j p hj
    · obtain ⟨hjn, hq⟩ := rmx_at hn (show i ≤ n by omega) hj
      unfold rIt
      rw [hF 7 (by decide), hF 8 (by decide), hF 10 (by decide), hF 11 (by decide), hF 12 (by decide)]
      rcases hq with ⟨rfl, hq⟩ | ⟨hne, hq⟩
      · obtain ⟨tk, tf, tl, tt, tg, tu, td⟩ := ti n x hq
        have hw64 := (hit x (List.mem_of_getElem? hq)).1
        refine ⟨pk_uLs.trans tk, pk_us.trans tf, pk_us.trans tl, pk_us.trans tt, pk_us.trans tg, pk_us.trans tu, fun k hk => ?_⟩
        have hk64 : k < 64 := by have := hw64.2.2.1; omega
        rw [h9, if_pos ⟨by omega, by omega⟩, Nat.add_sub_cancel_left, td k hk]
        refine pu_nar ?_
        have := hw64.2.2.2.2.1.at hk
        omega
      · obtain ⟨tk, tf, tl, tt, tg, tu, td⟩ := ti j x hq
        have hw64 := (hit x (List.mem_of_getElem? hq)).1
        refine ⟨(pk_uLn hne).trans tk, (pk_un hne).trans tf, (pk_un hne).trans tl, (pk_un hne).trans tt, (pk_un hne).trans tg, (pk_un hne).trans tu, fun k hk => ?_⟩
        have hk64 : k < 64 := by have := hw64.2.2.1; omega
        rw [h9, if_neg (by omega), td k hk]
    · intro c hc
      rw [hF 13 (by decide)]
      exact tp c hc
    · obtain ⟨j, hj⟩ := List.mem_iff_getElem?.mp hx
      obtain ⟨hjn, hq⟩ := rmx_at hn (show i ≤ n by omega) hj
      rcases hq with ⟨rfl, hq⟩ | ⟨hne, hq⟩
      · exact hit x (List.mem_of_getElem? hq)
      · exact hit x (List.mem_of_getElem? hq)
/-- the least stamp of a class -/
def lst (c : Nat) (R : List (It × Nat)) (i : Nat) (x : It × Nat) : Prop := R[i]? = some x ∧ icl x.1 = c ∧ ∀ (j : Nat) (y : It × Nat), R[j]? = some y → icl y.1 = c → x.2 ≤ y.2
def T_Mod_evict (G : sp_G) : sp_T := fun av M Post => ∃ B s a R pg ws fr V c, av = [.ref (B 0), .int (nI c)] ∧ rS G M B s a R pg ws fr V ∧ c < 4 ∧ (∀ x ∈ R, x.2 < 2 ^ 31) ∧ (∃ x ∈ R, icl x.1 = c) ∧ ∀ (i : Nat) (x : It × Nat) M', lst c R i x → rS G M' B s a (rmx i R) pg ws fr (up (up V 5 (R.length - 1)) 17 (V 17 + 1)) → rfr B M M' → Post none M'
set_option maxHeartbeats 4000000 in
set_option maxRecDepth 100000 in
theorem c_Mod_evict (l : Launch) (G : sp_G) : sp_Met l G y_Mod_evict b_Mod_evict 4 none { frames := 2, locals := 46 } (T_Mod_evict G) := by
  refine sp_entry (by decide) (fun av M Post h => ?_) (fun z M av Post hz _ hT => ?_)
  · obtain ⟨B, s, a, R, pg, ws, fr, V, c, rfl, -⟩ := h
    exact Nat.le_of_ble_eq_true rfl
  · obtain ⟨B, s, a, R, pg, ws, fr, V, c, rfl, hS, hc, hb31, hex, hp⟩ := hT
    have hS0 := hS
    obtain ⟨F, K, h0, ⟨l1, l3, l5, l21, l25⟩, ⟨t2, t4, t26, tw, ti, tp⟩, ⟨b1, b2, b3, b4, b5⟩, hch, hit, hr⟩ := hS0
    have h12 : M (B 12) = some (.inl (G.2.1 1, 48, .inl (F 12))) := h0.a 12 rfl
    have loop : ∀ n i v (L : sp_L), (∀ q ∈ [(0, .ref (B 0)), (1, .int (nI c)), (2, .int v), (3, .int (nI i))], q ∈ L) → R.length - i = n → i ≤ R.length → ((v = -1 ∧ ∀ (j : Nat) (y : It × Nat), j < i → R[j]? = some y → icl y.1 ≠ c) ∨ ∃ (k : Nat) (x : It × Nat), v = nI k ∧ R[k]? = some x ∧ icl x.1 = c ∧ ∀ (j : Nat) (y : It × Nat), j < i → R[j]? = some y → icl y.1 = c → x.2 ≤ y.2) → sp_W z G M (sp_Q z G M Post 0 0) 4 0 0 4 L [] M := by
      intro n
      induction n with
      | zero =>
        intro i v L hL hn hi hv
        refine sp_Lm _ hL ?_
        have ei : i = R.length := by omega
        rcases hv with ⟨-, hv⟩ | ⟨k, x, rfl, hk, hxc, hx⟩
        · obtain ⟨x, hx, hxc⟩ := hex
          obtain ⟨j, hj⟩ := List.mem_iff_getElem?.mp hx
          exact absurd hxc (hv j x (by have := (List.getElem?_eq_some_iff.mp hj).1; omega) hj)
        · have hlt := (List.getElem?_eq_some_iff.mp hk).1
          have hL0 : lst c R k x := ⟨hk, hxc, fun j y hj hy => hx j y (by have := (List.getElem?_eq_some_iff.mp hj).1; omega) hj hy⟩
          refine sp_run hz _ _ e_Mod_evict_4 _ _ _ ?_
          simp only [k_Mod_evict_4, E_nil, E_iconst, E_bipush, E_sipush, E_ldc, E_ldc2, E_lconst, E_null, E_iload_n, E_lload_n, E_aload_n, E_istore_n, E_lstore_n, E_astore_n, E_astoreN_n, E_iload, E_lload, E_aload, E_istore, E_lstore, E_astore, E_astoreN, E_ldi, E_ldl, E_lda, E_ldN, E_iinc, E_iadd, E_isub, E_imul, E_iand, E_ior, E_ixor, E_ishl, E_ishr, E_idiv, E_irem, E_ineg, E_ladd, E_lsub, E_land, E_lor, E_lcmp, E_lshl, E_lshr, E_lushr, E_i2l, E_l2i, E_i2c, E_dupI, E_popI, E_dup_x1II, E_dup2II, E_dup_x1IR, E_dup2IR, E_dup_x1IN, E_dup2IN, E_dupR, E_popR, E_dup_x1RI, E_dup2RI, E_dup_x1RR, E_dup2RR, E_dup_x1RN, E_dup2RN, E_dupN, E_popN, E_dup_x1NI, E_dup2NI, E_dup_x1NR, E_dup2NR, E_dup_x1NN, E_dup2NN, E_goto, E_if_eq, E_if_ne, E_if_lt, E_if_ge, E_if_gt, E_if_le, E_ic_eq, E_ic_ne, E_ic_lt, E_ic_ge, E_ic_gt, E_ic_le, E_ifnull, E_ifnullN, E_ifnonnull, E_ifnonnullN, E_get, E_gf, E_xv, E_n0, E_ns, E_putI, E_putR, E_putN, E_pf, E_st0, E_sts, E_iaload, E_caload, E_laload, E_aaload, E_alen, E_iast, E_cast, E_last, E_xI, E_xJ, E_xQ, E_xN, E_lk, E_lkn, E_s1, E_s1h, E_s1I, E_s1R, E_s1N, E_s1L, E_s2, E_s2h, E_s2L, E_s2I, E_s2R, E_s2N, E_a1, E_a0, E_aI, E_aR, E_aN, E_aL, Option.isSome_some, eq_self, true_and, and_true, true_or, or_true, ne_eq, not_false_eq_true, not_true_eq_false, reduceIte, reduceCtorEq, Nat.reduceAdd, Nat.reduceBEq, Nat.reduceEqDiff, Option.toList_some, Option.toList_none, List.cons_append, List.nil_append, h0.o, rn_5, l5]
          refine ⟨fun _ => ?_, fun h => absurd (by rw [ei]; exact Int32.le_refl _) h⟩
          refine sp_run hz _ _ e_Mod_evict_52 _ _ _ ?_
          simp only [k_Mod_evict_52, E_nil, E_iconst, E_bipush, E_sipush, E_ldc, E_ldc2, E_lconst, E_null, E_iload_n, E_lload_n, E_aload_n, E_istore_n, E_lstore_n, E_astore_n, E_astoreN_n, E_iload, E_lload, E_aload, E_istore, E_lstore, E_astore, E_astoreN, E_ldi, E_ldl, E_lda, E_ldN, E_iinc, E_iadd, E_isub, E_imul, E_iand, E_ior, E_ixor, E_ishl, E_ishr, E_idiv, E_irem, E_ineg, E_ladd, E_lsub, E_land, E_lor, E_lcmp, E_lshl, E_lshr, E_lushr, E_i2l, E_l2i, E_i2c, E_dupI, E_popI, E_dup_x1II, E_dup2II, E_dup_x1IR, E_dup2IR, E_dup_x1IN, E_dup2IN, E_dupR, E_popR, E_dup_x1RI, E_dup2RI, E_dup_x1RR, E_dup2RR, E_dup_x1RN, E_dup2RN, E_dupN, E_popN, E_dup_x1NI, E_dup2NI, E_dup_x1NR, E_dup2NR, E_dup_x1NN, E_dup2NN, E_goto, E_if_eq, E_if_ne, E_if_lt, E_if_ge, E_if_gt, E_if_le, E_ic_eq, E_ic_ne, E_ic_lt, E_ic_ge, E_ic_gt, E_ic_le, E_ifnull, E_ifnullN, E_ifnonnull, E_ifnonnullN, E_get, E_gf, E_xv, E_n0, E_ns, E_putI, E_putR, E_putN, E_pf, E_st0, E_sts, E_iaload, E_caload, E_laload, E_aaload, E_alen, E_iast, E_cast, E_last, E_xI, E_xJ, E_xQ, E_xN, E_lk, E_lkn, E_s1, E_s1h, E_s1I, E_s1R, E_s1N, E_s1L, E_s2, E_s2h, E_s2L, E_s2I, E_s2R, E_s2N, E_a1, E_a0, E_aI, E_aR, E_aN, E_aL, Option.isSome_some, eq_self, true_and, and_true, true_or, or_true, ne_eq, not_false_eq_true, not_true_eq_false, reduceIte, reduceCtorEq, Nat.reduceAdd, Nat.reduceBEq, Nat.reduceEqDiff, Option.toList_some, Option.toList_none, List.cons_append, List.nil_append]
          refine sp_callV hz (c_Mod_takeAway l G) (ci := 8) (As := [.int (nI k)]) (rest := []) rfl w_Mod_215 (by decide) hS.o rfl (Nat.le_of_ble_eq_true rfl) d_Mod_evict_54 ⟨B, s, a, R, pg, ws, fr, V, k, rfl, hS, hlt, fun M1 hS1 hf1 => ?_⟩ rfl
          have v17 : up V 5 (R.length - 1) 17 = V 17 := rfl
          refine sp_run hz _ _ e_Mod_evict_57 _ _ _ ?_
          simp only [k_Mod_evict_57, E_nil, E_iconst, E_bipush, E_sipush, E_ldc, E_ldc2, E_lconst, E_null, E_iload_n, E_lload_n, E_aload_n, E_istore_n, E_lstore_n, E_astore_n, E_astoreN_n, E_iload, E_lload, E_aload, E_istore, E_lstore, E_astore, E_astoreN, E_ldi, E_ldl, E_lda, E_ldN, E_iinc, E_iadd, E_isub, E_imul, E_iand, E_ior, E_ixor, E_ishl, E_ishr, E_idiv, E_irem, E_ineg, E_ladd, E_lsub, E_land, E_lor, E_lcmp, E_lshl, E_lshr, E_lushr, E_i2l, E_l2i, E_i2c, E_dupI, E_popI, E_dup_x1II, E_dup2II, E_dup_x1IR, E_dup2IR, E_dup_x1IN, E_dup2IN, E_dupR, E_popR, E_dup_x1RI, E_dup2RI, E_dup_x1RR, E_dup2RR, E_dup_x1RN, E_dup2RN, E_dupN, E_popN, E_dup_x1NI, E_dup2NI, E_dup_x1NR, E_dup2NR, E_dup_x1NN, E_dup2NN, E_goto, E_if_eq, E_if_ne, E_if_lt, E_if_ge, E_if_gt, E_if_le, E_ic_eq, E_ic_ne, E_ic_lt, E_ic_ge, E_ic_gt, E_ic_le, E_ifnull, E_ifnullN, E_ifnonnull, E_ifnonnullN, E_get, E_gf, E_xv, E_n0, E_ns, E_putI, E_putR, E_putN, E_pf, E_st0, E_sts, E_iaload, E_caload, E_laload, E_aaload, E_alen, E_iast, E_cast, E_last, E_xI, E_xJ, E_xQ, E_xN, E_lk, E_lkn, E_s1, E_s1h, E_s1I, E_s1R, E_s1N, E_s1L, E_s2, E_s2h, E_s2L, E_s2I, E_s2R, E_s2N, E_a1, E_a0, E_aI, E_aR, E_aN, E_aL, Option.isSome_some, eq_self, true_and, and_true, true_or, or_true, ne_eq, not_false_eq_true, not_true_eq_false, reduceIte, reduceCtorEq, Nat.reduceAdd, Nat.reduceBEq, Nat.reduceEqDiff, Option.toList_some, Option.toList_none, List.cons_append, List.nil_append, hS1.o, rn_17, v17, nI_1, rs_17]
          exact sp_vret hz d_Mod_evict_67 (Nat.le_refl _) (Nat.le_refl _) (hp k x _ hL0 (hS1.v _ rfl rfl rfl rfl rfl) (hf1.u (j := 0) rfl))
      | succ n ih =>
        intro i v L hL hn hi hv
        refine sp_Lm _ hL ?_
        have hlt : i < R.length := by omega
        have hg : R[i]? = some R[i] := List.getElem?_eq_getElem hlt
        have h4 := (hit _ (List.getElem_mem hlt)).1.cl4
        have hui := (ti i _ hg).2.2.2.2.2.1
        have hub := hb31 _ (List.getElem_mem hlt)
        have hin : vp_in (nI i) 48 := nI_in (by omega) (by decide)
        have ci := nI_clamp (show i < 2 ^ 31 by omega)
        have keep : ∀ (L : sp_L), (∀ q ∈ [(0, .ref (B 0)), (1, .int (nI c)), (2, .int v), (3, .int (nI i))], q ∈ L) → ((v = -1 ∧ ∀ (j : Nat) (y : It × Nat), j < i + 1 → R[j]? = some y → icl y.1 ≠ c) ∨ ∃ (k : Nat) (x : It × Nat), v = nI k ∧ R[k]? = some x ∧ icl x.1 = c ∧ ∀ (j : Nat) (y : It × Nat), j < i + 1 → R[j]? = some y → icl y.1 = c → x.2 ≤ y.2) → sp_W z G M (sp_Q z G M Post 0 0) 4 0 0 44 L [] M := by
          intro L hL hv
          refine sp_Lm _ hL ?_
          refine sp_run hz _ _ e_Mod_evict_44 _ _ _ ?_
          simp only [k_Mod_evict_44, E_nil, E_iconst, E_bipush, E_sipush, E_ldc, E_ldc2, E_lconst, E_null, E_iload_n, E_lload_n, E_aload_n, E_istore_n, E_lstore_n, E_astore_n, E_astoreN_n, E_iload, E_lload, E_aload, E_istore, E_lstore, E_astore, E_astoreN, E_ldi, E_ldl, E_lda, E_ldN, E_iinc, E_iadd, E_isub, E_imul, E_iand, E_ior, E_ixor, E_ishl, E_ishr, E_idiv, E_irem, E_ineg, E_ladd, E_lsub, E_land, E_lor, E_lcmp, E_lshl, E_lshr, E_lushr, E_i2l, E_l2i, E_i2c, E_dupI, E_popI, E_dup_x1II, E_dup2II, E_dup_x1IR, E_dup2IR, E_dup_x1IN, E_dup2IN, E_dupR, E_popR, E_dup_x1RI, E_dup2RI, E_dup_x1RR, E_dup2RR, E_dup_x1RN, E_dup2RN, E_dupN, E_popN, E_dup_x1NI, E_dup2NI, E_dup_x1NR, E_dup2NR, E_dup_x1NN, E_dup2NN, E_goto, E_if_eq, E_if_ne, E_if_lt, E_if_ge, E_if_gt, E_if_le, E_ic_eq, E_ic_ne, E_ic_lt, E_ic_ge, E_ic_gt, E_ic_le, E_ifnull, E_ifnullN, E_ifnonnull, E_ifnonnullN, E_get, E_gf, E_xv, E_n0, E_ns, E_putI, E_putR, E_putN, E_pf, E_st0, E_sts, E_iaload, E_caload, E_laload, E_aaload, E_alen, E_iast, E_cast, E_last, E_xI, E_xJ, E_xQ, E_xN, E_lk, E_lkn, E_s1, E_s1h, E_s1I, E_s1R, E_s1N, E_s1L, E_s2, E_s2h, E_s2L, E_s2I, E_s2R, E_s2N, E_a1, E_a0, E_aI, E_aR, E_aN, E_aL, Option.isSome_some, eq_self, true_and, and_true, true_or, or_true, ne_eq, not_false_eq_true, not_true_eq_false, reduceIte, reduceCtorEq, Nat.reduceAdd, Nat.reduceBEq, Nat.reduceEqDiff, Option.toList_some, Option.toList_none, List.cons_append, List.nil_append]
          refine sp_run hz _ _ e_Mod_evict_45 _ _ _ ?_
          simp only [k_Mod_evict_45, E_nil, E_iconst, E_bipush, E_sipush, E_ldc, E_ldc2, E_lconst, E_null, E_iload_n, E_lload_n, E_aload_n, E_istore_n, E_lstore_n, E_astore_n, E_astoreN_n, E_iload, E_lload, E_aload, E_istore, E_lstore, E_astore, E_astoreN, E_ldi, E_ldl, E_lda, E_ldN, E_iinc, E_iadd, E_isub, E_imul, E_iand, E_ior, E_ixor, E_ishl, E_ishr, E_idiv, E_irem, E_ineg, E_ladd, E_lsub, E_land, E_lor, E_lcmp, E_lshl, E_lshr, E_lushr, E_i2l, E_l2i, E_i2c, E_dupI, E_popI, E_dup_x1II, E_dup2II, E_dup_x1IR, E_dup2IR, E_dup_x1IN, E_dup2IN, E_dupR, E_popR, E_dup_x1RI, E_dup2RI, E_dup_x1RR, E_dup2RR, E_dup_x1RN, E_dup2RN, E_dupN, E_popN, E_dup_x1NI, E_dup2NI, E_dup_x1NR, E_dup2NR, E_dup_x1NN, E_dup2NN, E_goto, E_if_eq, E_if_ne, E_if_lt, E_if_ge, E_if_gt, E_if_le, E_ic_eq, E_ic_ne, E_ic_lt, E_ic_ge, E_ic_gt, E_ic_le, E_ifnull, E_ifnullN, E_ifnonnull, E_ifnonnullN, E_get, E_gf, E_xv, E_n0, E_ns, E_putI, E_putR, E_putN, E_pf, E_st0, E_sts, E_iaload, E_caload, E_laload, E_aaload, E_alen, E_iast, E_cast, E_last, E_xI, E_xJ, E_xQ, E_xN, E_lk, E_lkn, E_s1, E_s1h, E_s1I, E_s1R, E_s1N, E_s1L, E_s2, E_s2h, E_s2L, E_s2I, E_s2R, E_s2N, E_a1, E_a0, E_aI, E_aR, E_aN, E_aL, Option.isSome_some, eq_self, true_and, and_true, true_or, or_true, ne_eq, not_false_eq_true, not_true_eq_false, reduceIte, reduceCtorEq, Nat.reduceAdd, Nat.reduceBEq, Nat.reduceEqDiff, Option.toList_some, Option.toList_none, List.cons_append, List.nil_append, nI_1]
          exact ih (i + 1) v _ (by simp) (by omega) (by omega) hv
        have take : ∀ (L : sp_L), (∀ q ∈ [(0, .ref (B 0)), (1, .int (nI c)), (3, .int (nI i))], q ∈ L) → icl R[i].1 = c → (∀ (j : Nat) (y : It × Nat), j < i → R[j]? = some y → icl y.1 = c → R[i].2 ≤ y.2) → sp_W z G M (sp_Q z G M Post 0 0) 4 0 0 40 L [] M := by
          intro L hL hic hv
          refine sp_Lm _ hL ?_
          refine sp_run hz _ _ e_Mod_evict_40 _ _ _ ?_
          simp only [k_Mod_evict_40, E_nil, E_iconst, E_bipush, E_sipush, E_ldc, E_ldc2, E_lconst, E_null, E_iload_n, E_lload_n, E_aload_n, E_istore_n, E_lstore_n, E_astore_n, E_astoreN_n, E_iload, E_lload, E_aload, E_istore, E_lstore, E_astore, E_astoreN, E_ldi, E_ldl, E_lda, E_ldN, E_iinc, E_iadd, E_isub, E_imul, E_iand, E_ior, E_ixor, E_ishl, E_ishr, E_idiv, E_irem, E_ineg, E_ladd, E_lsub, E_land, E_lor, E_lcmp, E_lshl, E_lshr, E_lushr, E_i2l, E_l2i, E_i2c, E_dupI, E_popI, E_dup_x1II, E_dup2II, E_dup_x1IR, E_dup2IR, E_dup_x1IN, E_dup2IN, E_dupR, E_popR, E_dup_x1RI, E_dup2RI, E_dup_x1RR, E_dup2RR, E_dup_x1RN, E_dup2RN, E_dupN, E_popN, E_dup_x1NI, E_dup2NI, E_dup_x1NR, E_dup2NR, E_dup_x1NN, E_dup2NN, E_goto, E_if_eq, E_if_ne, E_if_lt, E_if_ge, E_if_gt, E_if_le, E_ic_eq, E_ic_ne, E_ic_lt, E_ic_ge, E_ic_gt, E_ic_le, E_ifnull, E_ifnullN, E_ifnonnull, E_ifnonnullN, E_get, E_gf, E_xv, E_n0, E_ns, E_putI, E_putR, E_putN, E_pf, E_st0, E_sts, E_iaload, E_caload, E_laload, E_aaload, E_alen, E_iast, E_cast, E_last, E_xI, E_xJ, E_xQ, E_xN, E_lk, E_lkn, E_s1, E_s1h, E_s1I, E_s1R, E_s1N, E_s1L, E_s2, E_s2h, E_s2L, E_s2I, E_s2R, E_s2N, E_a1, E_a0, E_aI, E_aR, E_aN, E_aL, Option.isSome_some, eq_self, true_and, and_true, true_or, or_true, ne_eq, not_false_eq_true, not_true_eq_false, reduceIte, reduceCtorEq, Nat.reduceAdd, Nat.reduceBEq, Nat.reduceEqDiff, Option.toList_some, Option.toList_none, List.cons_append, List.nil_append]
          refine sp_run hz _ _ e_Mod_evict_45 _ _ _ ?_
          simp only [k_Mod_evict_45, E_nil, E_iconst, E_bipush, E_sipush, E_ldc, E_ldc2, E_lconst, E_null, E_iload_n, E_lload_n, E_aload_n, E_istore_n, E_lstore_n, E_astore_n, E_astoreN_n, E_iload, E_lload, E_aload, E_istore, E_lstore, E_astore, E_astoreN, E_ldi, E_ldl, E_lda, E_ldN, E_iinc, E_iadd, E_isub, E_imul, E_iand, E_ior, E_ixor, E_ishl, E_ishr, E_idiv, E_irem, E_ineg, E_ladd, E_lsub, E_land, E_lor, E_lcmp, E_lshl, E_lshr, E_lushr, E_i2l, E_l2i, E_i2c, E_dupI, E_popI, E_dup_x1II, E_dup2II, E_dup_x1IR, E_dup2IR, E_dup_x1IN, E_dup2IN, E_dupR, E_popR, E_dup_x1RI, E_dup2RI, E_dup_x1RR, E_dup2RR, E_dup_x1RN, E_dup2RN, E_dupN, E_popN, E_dup_x1NI, E_dup2NI, E_dup_x1NR, E_dup2NR, E_dup_x1NN, E_dup2NN, E_goto, E_if_eq, E_if_ne, E_if_lt, E_if_ge, E_if_gt, E_if_le, E_ic_eq, E_ic_ne, E_ic_lt, E_ic_ge, E_ic_gt, E_ic_le, E_ifnull, E_ifnullN, E_ifnonnull, E_ifnonnullN, E_get, E_gf, E_xv, E_n0, E_ns, E_putI, E_putR, E_putN, E_pf, E_st0, E_sts, E_iaload, E_caload, E_laload, E_aaload, E_alen, E_iast, E_cast, E_last, E_xI, E_xJ, E_xQ, E_xN, E_lk, E_lkn, E_s1, E_s1h, E_s1I, E_s1R, E_s1N, E_s1L, E_s2, E_s2h, E_s2L, E_s2I, E_s2R, E_s2N, E_a1, E_a0, E_aI, E_aR, E_aN, E_aL, Option.isSome_some, eq_self, true_and, and_true, true_or, or_true, ne_eq, not_false_eq_true, not_true_eq_false, reduceIte, reduceCtorEq, Nat.reduceAdd, Nat.reduceBEq, Nat.reduceEqDiff, Option.toList_some, Option.toList_none, List.cons_append, List.nil_append, nI_1]
          refine ih (i + 1) (nI i) _ (by simp) (by omega) (by omega) (Or.inr ⟨i, _, rfl, hg, hic, fun j y hj hy hyc => ?_⟩)
          by_cases q : j = i
          · rw [q, hg] at hy
            cases hy
            exact Nat.le_refl _
          · exact hv j y (by omega) hy hyc
        refine sp_run hz _ _ e_Mod_evict_4 _ _ _ ?_
        simp only [k_Mod_evict_4, E_nil, E_iconst, E_bipush, E_sipush, E_ldc, E_ldc2, E_lconst, E_null, E_iload_n, E_lload_n, E_aload_n, E_istore_n, E_lstore_n, E_astore_n, E_astoreN_n, E_iload, E_lload, E_aload, E_istore, E_lstore, E_astore, E_astoreN, E_ldi, E_ldl, E_lda, E_ldN, E_iinc, E_iadd, E_isub, E_imul, E_iand, E_ior, E_ixor, E_ishl, E_ishr, E_idiv, E_irem, E_ineg, E_ladd, E_lsub, E_land, E_lor, E_lcmp, E_lshl, E_lshr, E_lushr, E_i2l, E_l2i, E_i2c, E_dupI, E_popI, E_dup_x1II, E_dup2II, E_dup_x1IR, E_dup2IR, E_dup_x1IN, E_dup2IN, E_dupR, E_popR, E_dup_x1RI, E_dup2RI, E_dup_x1RR, E_dup2RR, E_dup_x1RN, E_dup2RN, E_dupN, E_popN, E_dup_x1NI, E_dup2NI, E_dup_x1NR, E_dup2NR, E_dup_x1NN, E_dup2NN, E_goto, E_if_eq, E_if_ne, E_if_lt, E_if_ge, E_if_gt, E_if_le, E_ic_eq, E_ic_ne, E_ic_lt, E_ic_ge, E_ic_gt, E_ic_le, E_ifnull, E_ifnullN, E_ifnonnull, E_ifnonnullN, E_get, E_gf, E_xv, E_n0, E_ns, E_putI, E_putR, E_putN, E_pf, E_st0, E_sts, E_iaload, E_caload, E_laload, E_aaload, E_alen, E_iast, E_cast, E_last, E_xI, E_xJ, E_xQ, E_xN, E_lk, E_lkn, E_s1, E_s1h, E_s1I, E_s1R, E_s1N, E_s1L, E_s2, E_s2h, E_s2L, E_s2I, E_s2R, E_s2N, E_a1, E_a0, E_aI, E_aR, E_aN, E_aL, Option.isSome_some, eq_self, true_and, and_true, true_or, or_true, ne_eq, not_false_eq_true, not_true_eq_false, reduceIte, reduceCtorEq, Nat.reduceAdd, Nat.reduceBEq, Nat.reduceEqDiff, Option.toList_some, Option.toList_none, List.cons_append, List.nil_append, h0.o, rn_5, l5]
        refine ⟨fun h => absurd ((nI_leI (by omega) (by omega)).mp h) (by omega), fun _ => ?_⟩
        refine sp_callV hz (c_Mod_classAt l G) (ci := 8) (As := [.int (nI i)]) (rest := []) rfl w_Mod_206 (by decide) hS.o rfl (Nat.le_of_ble_eq_true rfl) d_Mod_evict_14 ⟨B, s, a, R, pg, ws, fr, V, i, _, rfl, hS, hg, ?_⟩ rfl
        rcases hv with ⟨rfl, hv⟩ | ⟨k, x, rfl, hk, hxc, hx⟩
        · refine sp_run hz _ _ e_Mod_evict_17 _ _ _ ?_
          simp only [k_Mod_evict_17, E_nil, E_iconst, E_bipush, E_sipush, E_ldc, E_ldc2, E_lconst, E_null, E_iload_n, E_lload_n, E_aload_n, E_istore_n, E_lstore_n, E_astore_n, E_astoreN_n, E_iload, E_lload, E_aload, E_istore, E_lstore, E_astore, E_astoreN, E_ldi, E_ldl, E_lda, E_ldN, E_iinc, E_iadd, E_isub, E_imul, E_iand, E_ior, E_ixor, E_ishl, E_ishr, E_idiv, E_irem, E_ineg, E_ladd, E_lsub, E_land, E_lor, E_lcmp, E_lshl, E_lshr, E_lushr, E_i2l, E_l2i, E_i2c, E_dupI, E_popI, E_dup_x1II, E_dup2II, E_dup_x1IR, E_dup2IR, E_dup_x1IN, E_dup2IN, E_dupR, E_popR, E_dup_x1RI, E_dup2RI, E_dup_x1RR, E_dup2RR, E_dup_x1RN, E_dup2RN, E_dupN, E_popN, E_dup_x1NI, E_dup2NI, E_dup_x1NR, E_dup2NR, E_dup_x1NN, E_dup2NN, E_goto, E_if_eq, E_if_ne, E_if_lt, E_if_ge, E_if_gt, E_if_le, E_ic_eq, E_ic_ne, E_ic_lt, E_ic_ge, E_ic_gt, E_ic_le, E_ifnull, E_ifnullN, E_ifnonnull, E_ifnonnullN, E_get, E_gf, E_xv, E_n0, E_ns, E_putI, E_putR, E_putN, E_pf, E_st0, E_sts, E_iaload, E_caload, E_laload, E_aaload, E_alen, E_iast, E_cast, E_last, E_xI, E_xJ, E_xQ, E_xN, E_lk, E_lkn, E_s1, E_s1h, E_s1I, E_s1R, E_s1N, E_s1L, E_s2, E_s2h, E_s2L, E_s2I, E_s2R, E_s2N, E_a1, E_a0, E_aI, E_aR, E_aN, E_aL, Option.isSome_some, eq_self, true_and, and_true, true_or, or_true, ne_eq, not_false_eq_true, not_true_eq_false, reduceIte, reduceCtorEq, Nat.reduceAdd, Nat.reduceBEq, Nat.reduceEqDiff, Option.toList_some, Option.toList_none, List.cons_append, List.nil_append]
          refine ⟨fun h => keep _ (by simp) (Or.inl ⟨rfl, fun j y hj hy => ?_⟩), fun h => ⟨fun _ => take _ (by simp) ((nI_eq (by omega) (by omega)).mp h) (fun j y hj hy hyc => absurd hyc (hv j y hj hy)), fun h2 => absurd (by decide) h2⟩⟩
          by_cases q : j = i
          · rw [q, hg] at hy
            cases hy
            exact fun w => h (by rw [w])
          · exact hv j y (by omega) hy
        · have hkl := (List.getElem?_eq_some_iff.mp hk).1
          have huk := (ti k x hk).2.2.2.2.2.1
          have hukb := hb31 x (List.mem_of_getElem? hk)
          have hink : vp_in (nI k) 48 := nI_in (by omega) (by decide)
          refine sp_run hz _ _ e_Mod_evict_17 _ _ _ ?_
          simp only [k_Mod_evict_17, E_nil, E_iconst, E_bipush, E_sipush, E_ldc, E_ldc2, E_lconst, E_null, E_iload_n, E_lload_n, E_aload_n, E_istore_n, E_lstore_n, E_astore_n, E_astoreN_n, E_iload, E_lload, E_aload, E_istore, E_lstore, E_astore, E_astoreN, E_ldi, E_ldl, E_lda, E_ldN, E_iinc, E_iadd, E_isub, E_imul, E_iand, E_ior, E_ixor, E_ishl, E_ishr, E_idiv, E_irem, E_ineg, E_ladd, E_lsub, E_land, E_lor, E_lcmp, E_lshl, E_lshr, E_lushr, E_i2l, E_l2i, E_i2c, E_dupI, E_popI, E_dup_x1II, E_dup2II, E_dup_x1IR, E_dup2IR, E_dup_x1IN, E_dup2IN, E_dupR, E_popR, E_dup_x1RI, E_dup2RI, E_dup_x1RR, E_dup2RR, E_dup_x1RN, E_dup2RN, E_dupN, E_popN, E_dup_x1NI, E_dup2NI, E_dup_x1NR, E_dup2NR, E_dup_x1NN, E_dup2NN, E_goto, E_if_eq, E_if_ne, E_if_lt, E_if_ge, E_if_gt, E_if_le, E_ic_eq, E_ic_ne, E_ic_lt, E_ic_ge, E_ic_gt, E_ic_le, E_ifnull, E_ifnullN, E_ifnonnull, E_ifnonnullN, E_get, E_gf, E_xv, E_n0, E_ns, E_putI, E_putR, E_putN, E_pf, E_st0, E_sts, E_iaload, E_caload, E_laload, E_aaload, E_alen, E_iast, E_cast, E_last, E_xI, E_xJ, E_xQ, E_xN, E_lk, E_lkn, E_s1, E_s1h, E_s1I, E_s1R, E_s1N, E_s1L, E_s2, E_s2h, E_s2L, E_s2I, E_s2R, E_s2N, E_a1, E_a0, E_aI, E_aR, E_aN, E_aL, Option.isSome_some, eq_self, true_and, and_true, true_or, or_true, ne_eq, not_false_eq_true, not_true_eq_false, reduceIte, reduceCtorEq, Nat.reduceAdd, Nat.reduceBEq, Nat.reduceEqDiff, Option.toList_some, Option.toList_none, List.cons_append, List.nil_append, h0.o, h12, rn_12, hin, hink, ci, nI_clamp (show k < 2 ^ 31 by omega), hui, huk]
          refine ⟨fun h => keep _ (by simp) (Or.inr ⟨k, x, rfl, hk, hxc, fun j y hj hy hyc => ?_⟩), fun h => ⟨fun h2 => absurd h2 (nI_pos (by omega)), fun _ => ⟨fun h2 => keep _ (by simp) (Or.inr ⟨k, x, rfl, hk, hxc, fun j y hj hy hyc => ?_⟩), fun h2 => take _ (by simp) ((nI_eq (by omega) (by omega)).mp h) (fun j y hj hy hyc => ?_)⟩⟩⟩
          · by_cases q : j = i
            · rw [q, hg] at hy
              cases hy
              exact absurd (by rw [hyc]) h
            · exact hx j y (by omega) hy hyc
          · by_cases q : j = i
            · rw [q, hg] at hy
              cases hy
              exact (nI_leI hukb hub).mp h2
            · exact hx j y (by omega) hy hyc
          · have hlt2 : R[i].2 < x.2 := Nat.not_le.mp fun q => h2 ((nI_leI hukb hub).mpr q)
            exact Nat.le_trans (Nat.le_of_lt hlt2) (hx j y hj hy hyc)
    refine sp_run hz _ _ e_Mod_evict_0 _ _ _ ?_
    simp only [k_Mod_evict_0, E_nil, E_iconst, E_bipush, E_sipush, E_ldc, E_ldc2, E_lconst, E_null, E_iload_n, E_lload_n, E_aload_n, E_istore_n, E_lstore_n, E_astore_n, E_astoreN_n, E_iload, E_lload, E_aload, E_istore, E_lstore, E_astore, E_astoreN, E_ldi, E_ldl, E_lda, E_ldN, E_iinc, E_iadd, E_isub, E_imul, E_iand, E_ior, E_ixor, E_ishl, E_ishr, E_idiv, E_irem, E_ineg, E_ladd, E_lsub, E_land, E_lor, E_lcmp, E_lshl, E_lshr, E_lushr, E_i2l, E_l2i, E_i2c, E_dupI, E_popI, E_dup_x1II, E_dup2II, E_dup_x1IR, E_dup2IR, E_dup_x1IN, E_dup2IN, E_dupR, E_popR, E_dup_x1RI, E_dup2RI, E_dup_x1RR, E_dup2RR, E_dup_x1RN, E_dup2RN, E_dupN, E_popN, E_dup_x1NI, E_dup2NI, E_dup_x1NR, E_dup2NR, E_dup_x1NN, E_dup2NN, E_goto, E_if_eq, E_if_ne, E_if_lt, E_if_ge, E_if_gt, E_if_le, E_ic_eq, E_ic_ne, E_ic_lt, E_ic_ge, E_ic_gt, E_ic_le, E_ifnull, E_ifnullN, E_ifnonnull, E_ifnonnullN, E_get, E_gf, E_xv, E_n0, E_ns, E_putI, E_putR, E_putN, E_pf, E_st0, E_sts, E_iaload, E_caload, E_laload, E_aaload, E_alen, E_iast, E_cast, E_last, E_xI, E_xJ, E_xQ, E_xN, E_lk, E_lkn, E_s1, E_s1h, E_s1I, E_s1R, E_s1N, E_s1L, E_s2, E_s2h, E_s2L, E_s2I, E_s2R, E_s2N, E_a1, E_a0, E_aI, E_aR, E_aN, E_aL, Option.isSome_some, eq_self, true_and, and_true, true_or, or_true, ne_eq, not_false_eq_true, not_true_eq_false, reduceIte, reduceCtorEq, Nat.reduceAdd, Nat.reduceBEq, Nat.reduceEqDiff, Option.toList_some, Option.toList_none, List.cons_append, List.nil_append]
    exact loop _ 0 (-1) _ (by simp; rfl) rfl (Nat.zero_le _) (Or.inl ⟨rfl, fun j y hj => absurd hj (by omega)⟩)
