/-! The model stores an item. -/
def rA (G : sp_G) (M : sp_M) (B : Nat → Nat) (s a : List Nat) (L : List It) (pg : Nat → Nat) (ws : List (Nat × Nat)) (fr : List Nat) (V : Nat → Nat) : Prop := ∃ R, rS G M B s a R pg ws fr V ∧ sR R L (V 16) ∧ kd L
theorem rA.o {G : sp_G} {M : sp_M} {B : Nat → Nat} {s a fr : List Nat} {L : List It} {pg V : Nat → Nat} {ws : List (Nat × Nat)} (h : rA G M B s a L pg ws fr V) : M (B 0) = some (.inr (8, rL B V)) := by
  obtain ⟨R, h, -⟩ := h
  exact h.o
def vsm (V V' : Nat → Nat) (js : List Nat) : Prop := ∀ j, j ∉ js → V' j = V j
/-- the model writes an item behind the others -/
def T_store117 (z : sp_Z) (G : sp_G) (M : sp_M) (Post : Option Value → sp_M → Prop) : Prop := ∀ (B : Nat → Nat) (s a : List Nat) (R : List (It × Nat)) (pg : Nat → Nat) (ws : List (Nat × Nat)) (fr : List Nat) (V : Nat → Nat) (k : List Nat) (f g : Nat) M1 (L : sp_L), (∀ q ∈ [(0, .ref (B 0)), (1, .long (lN (pkl k))), (3, .int (nI f)), (4, .int (nI (gz g)))], q ∈ L) → rS G M1 B s a R pg ws fr V → R.length < 48 → kOK k → 1 ≤ k.length → k.length + fr.length ≤ 64 → chOk fr → f < 1000000000 → 0 < g → g < 2 ^ 31 → V 15 + 1 < 1000000000 → V 16 + 1 < 2 ^ 31 →
  (∀ M' V', rS G M' B s a (R ++ [((k, fr, f, V 15 + 1, g), V 16 + 1)]) pg ws fr V' → V' 15 = V 15 + 1 → V' 16 = V 16 + 1 → vsm V V' [5, 15, 16] → rfr B M1 M' → Post (some (.int 1)) M') → sp_W z G M (sp_Q z G M Post 0 0) 9 0 0 117 L [] M1
set_option maxHeartbeats 4000000 in
set_option maxRecDepth 100000 in
theorem store117 {z : sp_Z} {l : Launch} {G : sp_G} {M : sp_M} {Post : Option Value → sp_M → Prop} {R0 : Room} (hz : sp_C z l R0 G M R_Mod b_Mod_store 9 (some .boolean)) (hR : sp_rm R0 {} 2 0 0 = true) : T_store117 z G M Post := by
  intro B s a R pg ws fr V k f g M1 L hL hS hR48 hk hk1 hkl hcf hff hg0 hg31 hv15 hv16 hp
  refine sp_Lm _ hL ?_
  obtain ⟨F, K, h0, ⟨l1, l3, l5, l21, l25⟩, ⟨t2, t4, t26, tw, ti, tp⟩, ⟨b1, b2, b3, b4, b5⟩, hch, hit, hr⟩ := hS
  generalize hn : R.length = n at *
  have loop : ∀ m j (f9 : Nat → Int32) (F1 : Nat → Nat → Int32) (K1 : Nat → Int64) M2 (L : sp_L), (∀ q ∈ [(0, .ref (B 0)), (8, .int (nI j))], q ∈ L) → fr.length - j = m → j ≤ fr.length → F1 9 = f9 → F1 26 = F 26 → rw0 G M2 B V F1 K1 → (∀ p, f9 p = if 64 * n ≤ p ∧ p < 64 * n + j then vp_nar .char (F 26 (p - 64 * n)) else F 9 p) → rfr B M1 M2 →
      (∀ M3 F3 (L : sp_L), (∀ q ∈ [(0, .ref (B 0))], q ∈ L) → rw0 G M3 B V F3 K1 → (∀ j, j ≠ 9 → F3 j = F1 j) → (∀ p, F3 9 p = if 64 * n ≤ p ∧ p < 64 * n + fr.length then vp_nar .char (F 26 (p - 64 * n)) else F 9 p) → rfr B M1 M3 → sp_W z G M (sp_Q z G M Post 0 0) 9 0 0 201 L [] M3) → sp_W z G M (sp_Q z G M Post 0 0) 9 0 0 164 L [] M2 := by
    intro m
    induction m with
    | zero =>
      intro j f9 F1 K1 M2 L hL hm hj e9 e26 hw hf9 hf hend
      refine sp_Lm _ hL ?_
      have ej : j = fr.length := by omega
      subst ej
      refine sp_run hz _ _ e_Mod_store_164 _ _ _ ?_
      simp only [k_Mod_store_164, E_nil, E_iconst, E_bipush, E_sipush, E_ldc, E_ldc2, E_lconst, E_null, E_iload_n, E_lload_n, E_aload_n, E_istore_n, E_lstore_n, E_astore_n, E_astoreN_n, E_iload, E_lload, E_aload, E_istore, E_lstore, E_astore, E_astoreN, E_ldi, E_ldl, E_lda, E_ldN, E_iinc, E_iadd, E_isub, E_imul, E_iand, E_ior, E_ixor, E_ishl, E_ishr, E_idiv, E_irem, E_ineg, E_ladd, E_lsub, E_land, E_lor, E_lcmp, E_lshl, E_lshr, E_lushr, E_i2l, E_l2i, E_i2c, E_dupI, E_popI, E_dup_x1II, E_dup2II, E_dup_x1IR, E_dup2IR, E_dup_x1IN, E_dup2IN, E_dupR, E_popR, E_dup_x1RI, E_dup2RI, E_dup_x1RR, E_dup2RR, E_dup_x1RN, E_dup2RN, E_dupN, E_popN, E_dup_x1NI, E_dup2NI, E_dup_x1NR, E_dup2NR, E_dup_x1NN, E_dup2NN, E_goto, E_if_eq, E_if_ne, E_if_lt, E_if_ge, E_if_gt, E_if_le, E_ic_eq, E_ic_ne, E_ic_lt, E_ic_ge, E_ic_gt, E_ic_le, E_ifnull, E_ifnullN, E_ifnonnull, E_ifnonnullN, E_get, E_gf, E_xv, E_n0, E_ns, E_putI, E_putR, E_putN, E_pf, E_st0, E_sts, E_iaload, E_caload, E_laload, E_aaload, E_alen, E_iast, E_cast, E_last, E_xI, E_xJ, E_xQ, E_xN, E_lk, E_lkn, E_s1, E_s1h, E_s1I, E_s1R, E_s1N, E_s1L, E_s2, E_s2h, E_s2L, E_s2I, E_s2R, E_s2N, E_a1, E_a0, E_aI, E_aR, E_aN, E_aL, Option.isSome_some, eq_self, true_and, and_true, true_or, or_true, ne_eq, not_false_eq_true, not_true_eq_false, reduceIte, reduceCtorEq, Nat.reduceAdd, Nat.reduceBEq, Nat.reduceEqDiff, Option.toList_some, Option.toList_none, List.cons_append, List.nil_append, hw.o, rn_25, l25]
      exact ⟨fun _ => hend M2 F1 _ (by simp) hw (fun _ _ => rfl) (by rw [e9]; exact hf9) hf, fun h => absurd (Int32.le_refl _) h⟩
    | succ m ih =>
      intro j f9 F1 K1 M2 L hL hm hj e9 e26 hw hf9 hf hend
      refine sp_Lm _ hL ?_
      have h9 : M2 (B 9) = some (.inl (G.2.1 0, 3072, .inl f9)) := by rw [← e9]; exact hw.a 9 rfl
      have h26 : M2 (B 26) = some (.inl (G.2.1 0, 300, .inl (F 26))) := by rw [← e26]; exact hw.a 26 rfl
      have e1 : (64 : Int32) * nI n + nI j = nI (64 * n + j) := by
        rw [show (64 : Int32) * nI n = nI (64 * n) from pk_mul 64 n]
        exact (Int32.ofNat_add _ _).symm
      have i1 : vp_in (nI (64 * n + j)) 3072 := nI_in (by omega) (by decide)
      have i2 : vp_in (nI j) 300 := nI_in (by omega) (by decide)
      refine sp_run hz _ _ e_Mod_store_164 _ _ _ ?_
      simp only [k_Mod_store_164, E_nil, E_iconst, E_bipush, E_sipush, E_ldc, E_ldc2, E_lconst, E_null, E_iload_n, E_lload_n, E_aload_n, E_istore_n, E_lstore_n, E_astore_n, E_astoreN_n, E_iload, E_lload, E_aload, E_istore, E_lstore, E_astore, E_astoreN, E_ldi, E_ldl, E_lda, E_ldN, E_iinc, E_iadd, E_isub, E_imul, E_iand, E_ior, E_ixor, E_ishl, E_ishr, E_idiv, E_irem, E_ineg, E_ladd, E_lsub, E_land, E_lor, E_lcmp, E_lshl, E_lshr, E_lushr, E_i2l, E_l2i, E_i2c, E_dupI, E_popI, E_dup_x1II, E_dup2II, E_dup_x1IR, E_dup2IR, E_dup_x1IN, E_dup2IN, E_dupR, E_popR, E_dup_x1RI, E_dup2RI, E_dup_x1RR, E_dup2RR, E_dup_x1RN, E_dup2RN, E_dupN, E_popN, E_dup_x1NI, E_dup2NI, E_dup_x1NR, E_dup2NR, E_dup_x1NN, E_dup2NN, E_goto, E_if_eq, E_if_ne, E_if_lt, E_if_ge, E_if_gt, E_if_le, E_ic_eq, E_ic_ne, E_ic_lt, E_ic_ge, E_ic_gt, E_ic_le, E_ifnull, E_ifnullN, E_ifnonnull, E_ifnonnullN, E_get, E_gf, E_xv, E_n0, E_ns, E_putI, E_putR, E_putN, E_pf, E_st0, E_sts, E_iaload, E_caload, E_laload, E_aaload, E_alen, E_iast, E_cast, E_last, E_xI, E_xJ, E_xQ, E_xN, E_lk, E_lkn, E_s1, E_s1h, E_s1I, E_s1R, E_s1N, E_s1L, E_s2, E_s2h, E_s2L, E_s2I, E_s2R, E_s2N, E_a1, E_a0, E_aI, E_aR, E_aN, E_aL, Option.isSome_some, eq_self, true_and, and_true, true_or, or_true, ne_eq, not_false_eq_true, not_true_eq_false, reduceIte, reduceCtorEq, Nat.reduceAdd, Nat.reduceBEq, Nat.reduceEqDiff, Option.toList_some, Option.toList_none, List.cons_append, List.nil_append, hw.o, h9, h26, rn_9, rn_5, rn_25, rn_26, l5, l25, e1, i1, i2, nI_clamp (show 64 * n + j < 2 ^ 31 by omega), nI_clamp (show j < 2 ^ 31 by omega), nI_1]
      refine ⟨fun h => absurd ((nI_leI (by omega) (by omega)).mp h) (by omega), fun _ => ?_⟩
      refine ih (j + 1) (upd f9 (64 * n + j) (vp_nar .char (F 26 j))) (fun i => if i = 9 then upd f9 (64 * n + j) (vp_nar .char (F 26 j)) else F1 i) K1 _ _ (by simp) (by omega) (by omega) (if_pos rfl) e26 (hw.arr (j := 9) rfl _) (fun p => ?_) (hf.u (j := 9) rfl) (fun M3 F3 L hL q1 q2 q3 q4 => hend M3 F3 L hL q1 (fun i hi => (q2 i hi).trans (if_neg hi)) q3 q4)
      by_cases e : p = 64 * n + j
      · subst e
        rw [pk_us, if_pos ⟨by omega, by omega⟩, Nat.add_sub_cancel_left]
      · rw [pk_un e, hf9]
        by_cases q : 64 * n ≤ p ∧ p < 64 * n + j
        · rw [if_pos q, if_pos ⟨q.1, by omega⟩]
        · rw [if_neg q, if_neg (fun w => q ⟨w.1, by omega⟩)]
  have hinn : vp_in (nI n) 48 := nI_in (by omega) (by decide)
  have cnn := nI_clamp (show n < 2 ^ 31 by omega)
  have fin : ∀ M3 F3 (L : sp_L), (∀ q ∈ [(0, .ref (B 0))], q ∈ L) → rw0 G M3 B V F3 (vp_updL K n (lN (pkl k))) → F3 2 = F 2 → F3 4 = F 4 → F3 26 = F 26 → F3 22 = F 22 → F3 23 = F 23 → F3 13 = F 13 → F3 10 = F 10 → F3 12 = F 12 → F3 7 = upd (F 7) n (nI f) → F3 8 = upd (F 8) n (nI fr.length) → F3 11 = upd (F 11) n (nI (gz g)) → (∀ p, F3 9 p = if 64 * n ≤ p ∧ p < 64 * n + fr.length then vp_nar .char (F 26 (p - 64 * n)) else F 9 p) → rfr B M1 M3 → sp_W z G M (sp_Q z G M Post 0 0) 9 0 0 201 L [] M3 := by
    intro M3 F3 L hL hw x2 x4 x26 x22 x23 x13 x10 x12 x7 x8 x11 x9 hf
    refine sp_Lm _ hL ?_
    have h10 : M3 (B 10) = some (.inl (G.2.1 1, 48, .inl (F 10))) := by rw [← x10]; exact hw.a 10 rfl
    have n10_0 := hw.ne 10 0 rfl rfl (by decide)
    have n0_10 := hw.ne 0 10 rfl rfl (by decide)
    have v5' : up V 15 (V 15 + 1) 5 = n := l5
    refine sp_run hz _ _ e_Mod_store_201 _ _ _ ?_
    simp only [k_Mod_store_201, E_nil, E_iconst, E_bipush, E_sipush, E_ldc, E_ldc2, E_lconst, E_null, E_iload_n, E_lload_n, E_aload_n, E_istore_n, E_lstore_n, E_astore_n, E_astoreN_n, E_iload, E_lload, E_aload, E_istore, E_lstore, E_astore, E_astoreN, E_ldi, E_ldl, E_lda, E_ldN, E_iinc, E_iadd, E_isub, E_imul, E_iand, E_ior, E_ixor, E_ishl, E_ishr, E_idiv, E_irem, E_ineg, E_ladd, E_lsub, E_land, E_lor, E_lcmp, E_lshl, E_lshr, E_lushr, E_i2l, E_l2i, E_i2c, E_dupI, E_popI, E_dup_x1II, E_dup2II, E_dup_x1IR, E_dup2IR, E_dup_x1IN, E_dup2IN, E_dupR, E_popR, E_dup_x1RI, E_dup2RI, E_dup_x1RR, E_dup2RR, E_dup_x1RN, E_dup2RN, E_dupN, E_popN, E_dup_x1NI, E_dup2NI, E_dup_x1NR, E_dup2NR, E_dup_x1NN, E_dup2NN, E_goto, E_if_eq, E_if_ne, E_if_lt, E_if_ge, E_if_gt, E_if_le, E_ic_eq, E_ic_ne, E_ic_lt, E_ic_ge, E_ic_gt, E_ic_le, E_ifnull, E_ifnullN, E_ifnonnull, E_ifnonnullN, E_get, E_gf, E_xv, E_n0, E_ns, E_putI, E_putR, E_putN, E_pf, E_st0, E_sts, E_iaload, E_caload, E_laload, E_aaload, E_alen, E_iast, E_cast, E_last, E_xI, E_xJ, E_xQ, E_xN, E_lk, E_lkn, E_s1, E_s1h, E_s1I, E_s1R, E_s1N, E_s1L, E_s2, E_s2h, E_s2L, E_s2I, E_s2R, E_s2N, E_a1, E_a0, E_aI, E_aR, E_aN, E_aL, Option.isSome_some, eq_self, true_and, and_true, true_or, or_true, ne_eq, not_false_eq_true, not_true_eq_false, reduceIte, reduceCtorEq, Nat.reduceAdd, Nat.reduceBEq, Nat.reduceEqDiff, Option.toList_some, Option.toList_none, List.cons_append, List.nil_append, hw.o, h10, rn_15, rn_10, rn_5, nI_1, rs_15, rs_5, sp_u_s, sp_u_n _ _ n10_0, sp_u_n _ _ n0_10, up_s, v5', hinn, cnn, i_s1]
    obtain ⟨u, hu, eu⟩ := wb_of32 (F 12 n)
    have hS3 : rS G (sp_u (sp_u (sp_u M3 (B 0) (.inr (8, rL B (up V 15 (V 15 + 1))))) (B 10) (.inl (G.2.1 1, 48, .inl (upd (F 10) n (nI (V 15 + 1)))))) (B 0) (.inr (8, rL B (up (up V 15 (V 15 + 1)) 5 (n + 1))))) B s a (R ++ [((k, fr, f, V 15 + 1, g), u)]) pg ws fr (up (up V 15 (V 15 + 1)) 5 (n + 1)) := by
      refine ⟨_, _, ((hw.fld _).arr (j := 10) rfl _).fld _, ⟨l1, l3, by rw [List.length_append, hn]; rfl, l21, l25⟩, ⟨?_, ?_, ?_, ?_, fun i x hx => ?_, ?_⟩, ⟨b1, b2, by rw [List.length_append, hn, List.length_singleton]; omega, b4, b5⟩, hch, fun x hx => ?_, hr⟩
      · show rT (F3 2) s
        rw [x2]; exact t2
      · show rT (F3 4) a
        rw [x4]; exact t4
      · show rT (F3 26) fr
        rw [x26]; exact t26
      · intro i p hi
        show F3 22 i = _ ∧ F3 23 i = _
        rw [x22, x23]
        exact tw i p hi
      · show vp_updL K n (lN (pkl k)) i = _ ∧ F3 7 i = _ ∧ F3 8 i = _ ∧ upd (F 10) n (nI (V 15 + 1)) i = _ ∧ F3 11 i = _ ∧ F3 12 i = _ ∧ ∀ k, k < (iD x.1).length → F3 9 (64 * i + k) = _
        rw [x7, x8, x11, x12]
        by_cases e : i = n
        · subst e
          rw [List.getElem?_append_right (by omega), hn, Nat.sub_self] at hx
          cases hx
          refine ⟨pk_uLs, pk_us, pk_us, pk_us, pk_us, eu, fun j hj => ?_⟩
          have hj : j < fr.length := hj
          rw [x9, if_pos ⟨by omega, by omega⟩, Nat.add_sub_cancel_left, t26 j hj]
          refine pu_nar ?_
          have := hcf.at hj
          omega
        · have hil : i < n := by
            have := (List.getElem?_eq_some_iff.mp hx).1
            rw [List.length_append, hn, List.length_singleton] at this
            omega
          rw [List.getElem?_append_left (by omega)] at hx
          obtain ⟨tk, tf, tl, tt, tg, tu, td⟩ := ti i x hx
          have hw64 := (hit x (List.mem_of_getElem? hx)).1
          refine ⟨(pk_uLn e).trans tk, (pk_un e).trans tf, (pk_un e).trans tl, (pk_un e).trans tt, (pk_un e).trans tg, tu, fun j hj => ?_⟩
          have hk64 : j < 64 := by have := hw64.2.2.1; omega
          rw [x9, if_neg (by omega), td j hj]
      · intro c hc
        show F3 13 c = _
        rw [x13]; exact tp c hc
      · rcases List.mem_append.mp hx with h | h
        · exact hit x h
        · rw [List.mem_singleton.mp h]
          exact ⟨⟨hk1, hk.1, hkl, hk.2, hcf, hff, hv15, hg31, hg0⟩, hu⟩
    have hgl : (R ++ [((k, fr, f, V 15 + 1, g), u)])[n]? = some ((k, fr, f, V 15 + 1, g), u) := by
      rw [List.getElem?_append_right (by omega), hn, Nat.sub_self]
      rfl
    refine sp_callV hz (c_Mod_use l G) (ci := 8) (As := [.int (nI n)]) (rest := []) rfl w_Mod_247 hR hS3.o rfl (Nat.le_of_ble_eq_true rfl) d_Mod_store_241 ⟨B, s, a, _, pg, ws, fr, _, n, _, rfl, hS3, hgl, hv16, fun M4 hS4 hf4 => ?_⟩ rfl
    have es : (R ++ [((k, fr, f, V 15 + 1, g), u)]).set n ((k, fr, f, V 15 + 1, g), V 16 + 1) = R ++ [((k, fr, f, V 15 + 1, g), V 16 + 1)] := by
      rw [← hn, List.set_append_right _ _ (Nat.le_refl _), Nat.sub_self]
      rfl
    have hS4' : rS G M4 B s a ((R ++ [((k, fr, f, V 15 + 1, g), u)]).set n ((k, fr, f, V 15 + 1, g), V 16 + 1)) pg ws fr (up (up (up V 15 (V 15 + 1)) 5 (n + 1)) 16 (V 16 + 1)) := hS4
    rw [es] at hS4'
    refine sp_run hz _ _ e_Mod_store_244 _ _ _ ?_
    simp only [k_Mod_store_244, E_nil, E_iconst, E_bipush, E_sipush, E_ldc, E_ldc2, E_lconst, E_null, E_iload_n, E_lload_n, E_aload_n, E_istore_n, E_lstore_n, E_astore_n, E_astoreN_n, E_iload, E_lload, E_aload, E_istore, E_lstore, E_astore, E_astoreN, E_ldi, E_ldl, E_lda, E_ldN, E_iinc, E_iadd, E_isub, E_imul, E_iand, E_ior, E_ixor, E_ishl, E_ishr, E_idiv, E_irem, E_ineg, E_ladd, E_lsub, E_land, E_lor, E_lcmp, E_lshl, E_lshr, E_lushr, E_i2l, E_l2i, E_i2c, E_dupI, E_popI, E_dup_x1II, E_dup2II, E_dup_x1IR, E_dup2IR, E_dup_x1IN, E_dup2IN, E_dupR, E_popR, E_dup_x1RI, E_dup2RI, E_dup_x1RR, E_dup2RR, E_dup_x1RN, E_dup2RN, E_dupN, E_popN, E_dup_x1NI, E_dup2NI, E_dup_x1NR, E_dup2NR, E_dup_x1NN, E_dup2NN, E_goto, E_if_eq, E_if_ne, E_if_lt, E_if_ge, E_if_gt, E_if_le, E_ic_eq, E_ic_ne, E_ic_lt, E_ic_ge, E_ic_gt, E_ic_le, E_ifnull, E_ifnullN, E_ifnonnull, E_ifnonnullN, E_get, E_gf, E_xv, E_n0, E_ns, E_putI, E_putR, E_putN, E_pf, E_st0, E_sts, E_iaload, E_caload, E_laload, E_aaload, E_alen, E_iast, E_cast, E_last, E_xI, E_xJ, E_xQ, E_xN, E_lk, E_lkn, E_s1, E_s1h, E_s1I, E_s1R, E_s1N, E_s1L, E_s2, E_s2h, E_s2L, E_s2I, E_s2R, E_s2N, E_a1, E_a0, E_aI, E_aR, E_aN, E_aL, Option.isSome_some, eq_self, true_and, and_true, true_or, or_true, ne_eq, not_false_eq_true, not_true_eq_false, reduceIte, reduceCtorEq, Nat.reduceAdd, Nat.reduceBEq, Nat.reduceEqDiff, Option.toList_some, Option.toList_none, List.cons_append, List.nil_append]
    refine sp_zret hz d_Mod_store_245 rfl (Nat.le_refl _) (Nat.le_refl _) (hp M4 _ hS4' rfl (up_s _ _ _) (fun j hj => ?_) ((((hf.u (j := 0) rfl).u (j := 10) rfl).u (j := 0) rfl).trans hf4))
    simp only [List.mem_cons, List.not_mem_nil, or_false, not_or] at hj
    rw [up_n _ _ hj.2.2, up_n _ _ hj.1, up_n _ _ hj.2.1]
  · have h6 := h0.k
    have h7 : M1 (B 7) = some (.inl (G.2.1 1, 48, .inl (F 7))) := h0.a 7 rfl
    have h8 : M1 (B 8) = some (.inl (G.2.1 1, 48, .inl (F 8))) := h0.a 8 rfl
    have h11 : M1 (B 11) = some (.inl (G.2.1 1, 48, .inl (F 11))) := h0.a 11 rfl
    have n0_6 := h0.ne 0 6 rfl rfl (by decide)
    have n0_7 := h0.ne 0 7 rfl rfl (by decide)
    have n0_8 := h0.ne 0 8 rfl rfl (by decide)
    have n0_11 := h0.ne 0 11 rfl rfl (by decide)
    have n7_6 := h0.ne 7 6 rfl rfl (by decide)
    have n8_6 := h0.ne 8 6 rfl rfl (by decide)
    have n8_7 := h0.ne 8 7 rfl rfl (by decide)
    have n11_6 := h0.ne 11 6 rfl rfl (by decide)
    have n11_7 := h0.ne 11 7 rfl rfl (by decide)
    have n11_8 := h0.ne 11 8 rfl rfl (by decide)
    refine sp_run hz _ _ e_Mod_store_117 _ _ _ ?_
    simp only [k_Mod_store_117, E_nil, E_iconst, E_bipush, E_sipush, E_ldc, E_ldc2, E_lconst, E_null, E_iload_n, E_lload_n, E_aload_n, E_istore_n, E_lstore_n, E_astore_n, E_astoreN_n, E_iload, E_lload, E_aload, E_istore, E_lstore, E_astore, E_astoreN, E_ldi, E_ldl, E_lda, E_ldN, E_iinc, E_iadd, E_isub, E_imul, E_iand, E_ior, E_ixor, E_ishl, E_ishr, E_idiv, E_irem, E_ineg, E_ladd, E_lsub, E_land, E_lor, E_lcmp, E_lshl, E_lshr, E_lushr, E_i2l, E_l2i, E_i2c, E_dupI, E_popI, E_dup_x1II, E_dup2II, E_dup_x1IR, E_dup2IR, E_dup_x1IN, E_dup2IN, E_dupR, E_popR, E_dup_x1RI, E_dup2RI, E_dup_x1RR, E_dup2RR, E_dup_x1RN, E_dup2RN, E_dupN, E_popN, E_dup_x1NI, E_dup2NI, E_dup_x1NR, E_dup2NR, E_dup_x1NN, E_dup2NN, E_goto, E_if_eq, E_if_ne, E_if_lt, E_if_ge, E_if_gt, E_if_le, E_ic_eq, E_ic_ne, E_ic_lt, E_ic_ge, E_ic_gt, E_ic_le, E_ifnull, E_ifnullN, E_ifnonnull, E_ifnonnullN, E_get, E_gf, E_xv, E_n0, E_ns, E_putI, E_putR, E_putN, E_pf, E_st0, E_sts, E_iaload, E_caload, E_laload, E_aaload, E_alen, E_iast, E_cast, E_last, E_xI, E_xJ, E_xQ, E_xN, E_lk, E_lkn, E_s1, E_s1h, E_s1I, E_s1R, E_s1N, E_s1L, E_s2, E_s2h, E_s2L, E_s2I, E_s2R, E_s2N, E_a1, E_a0, E_aI, E_aR, E_aN, E_aL, Option.isSome_some, eq_self, true_and, and_true, true_or, or_true, ne_eq, not_false_eq_true, not_true_eq_false, reduceIte, reduceCtorEq, Nat.reduceAdd, Nat.reduceBEq, Nat.reduceEqDiff, Option.toList_some, Option.toList_none, List.cons_append, List.nil_append, h0.o, h6, h7, h8, h11, rn_5, rn_6, rn_7, rn_8, rn_11, rn_25, l5, l25, sp_u_s, sp_u_n _ _ n0_6, sp_u_n _ _ n0_7, sp_u_n _ _ n0_8, sp_u_n _ _ n0_11, sp_u_n _ _ n7_6, sp_u_n _ _ n8_6, sp_u_n _ _ n8_7, sp_u_n _ _ n11_6, sp_u_n _ _ n11_7, sp_u_n _ _ n11_8, hinn, cnn]
    refine loop fr.length 0 (F 9) _ _ _ _ (by simp; rfl) rfl (Nat.zero_le _) ?_ ?_ ((((h0.key (vp_updL K n (lN (pkl k)))).arr (j := 7) rfl _).arr (j := 8) rfl _).arr (j := 11) rfl _) (fun p => by rw [if_neg (by omega)]) (((((rfr.refl B M1).u (j := 6) rfl).u (j := 7) rfl).u (j := 8) rfl).u (j := 11) rfl) (fun M3 F3 L hL hw hF h9 hf => ?_)
    · rfl
    · rfl
    · refine fin M3 F3 L hL hw (hF 2 (by decide)) (hF 4 (by decide)) (hF 26 (by decide)) (hF 22 (by decide)) (hF 23 (by decide)) (hF 13 (by decide)) (hF 10 (by decide)) (hF 12 (by decide)) (hF 7 (by decide)) (hF 8 (by decide)) (hF 11 (by decide)) h9 hf
