/-! The model counts. -/
theorem rS.fr0 {G : sp_G} {M : sp_M} {B : Nat → Nat} {s a fr : List Nat} {R : List (It × Nat)} {pg V : Nat → Nat} {ws : List (Nat × Nat)} (h : rS G M B s a R pg ws fr V) : rS G (sp_u M (B 0) (.inr (8, rL B (up V 25 0)))) B s a R pg ws [] (up V 25 0) := by
  obtain ⟨F, K, h0, ⟨l1, l3, l5, l21, l25⟩, ⟨t2, t4, t26, tw, ti, tp⟩, ⟨b1, b2, b3, b4, b5⟩, hr⟩ := h
  exact ⟨F, K, h0.fld _, ⟨l1, l3, l5, l21, rfl⟩, ⟨t2, t4, (fun i hi => absurd hi (Nat.not_lt_zero _)), tw, ti, tp⟩, ⟨b1, b2, b3, b4, Nat.zero_le _⟩, hr⟩
theorem seg_all (D : List Nat) : pu_seg D 0 D.length = D := by rw [seg_drop D.length D 0 rfl (Nat.zero_le _), List.drop_zero]
theorem dec_ch {n : Nat} (h : n < 1000000000) : ∀ c ∈ pu_dec n, pu_ischar c = true := by
  have key : ∀ k, ∀ c ∈ pu_dcl k n, 48 ≤ c ∧ c ≤ 57 := by
    intro k
    induction k with
    | zero =>
      intro c hc
      have hc : c = 48 + n % 10 := List.mem_singleton.mp hc
      have := Nat.mod_lt n (show 0 < 10 by decide)
      omega
    | succ k ih =>
      intro c hc
      have hc : c ∈ (if 10 ^ (k + 1) ≤ n then [48 + n / 10 ^ (k + 1) % 10] else []) ++ pu_dcl k n := hc
      rcases List.mem_append.mp hc with q | q
      · split at q
        · rw [List.mem_singleton] at q
          have := Nat.mod_lt (n / 10 ^ (k + 1)) (show 0 < 10 by decide)
          omega
        · cases q
      · exact ih c q
  intro c hc
  have := key 9 c hc
  unfold pu_ischar
  rw [decide_eq_true (show 32 ≤ c by omega), decide_eq_true (show c ≤ 126 by omega), Bool.and_self, Bool.or_true]
theorem pta_e {x : It} {L : List It} {pg : Nat → Nat} {nn : NN} (h64 : (iK x).length + (iD x).length ≤ 64) (hg : nn.2.1 < iG x) : pta x L pg nn = ((ptE (clo ((iK x).length + (iD x).length)) (rmv (iK x) L) pg nn).1, (iK x, iD x, iF x, nn.2.2.1 + 1, iG x) :: (ptE (clo ((iK x).length + (iD x).length)) (rmv (iK x) L) pg nn).2.1, ((ptE (clo ((iK x).length + (iD x).length)) (rmv (iK x) L) pg nn).2.2.1, nn.2.1, nn.2.2.1 + 1, (ptE (clo ((iK x).length + (iD x).length)) (rmv (iK x) L) pg nn).2.2.2.2.2.1, nn.2.2.2.2)) := by
  have hc : icl x = clo ((iK x).length + (iD x).length) := clo_zf h64
  obtain ⟨e1, e2, e3⟩ := ptE_nn (clo ((iK x).length + (iD x).length)) (rmv (iK x) L) pg nn
  unfold pta
  rw [hc]
  show (if nn.2.1 < iG x then _ else _) = _
  rw [if_pos hg, e1, e2, e3]
def cnt (b : Bool) (v w : Nat) : Nat := if b = true then (v + w) % 1000000000 else v - w
theorem cnt_lt {b : Bool} {v w : Nat} (hv : v < 1000000000) : cnt b v w < 1000000000 := by
  unfold cnt
  split
  · exact Nat.mod_lt _ (by decide)
  · omega
def T_Mod_doCount (G : sp_G) : sp_T := fun av M Post => ∃ B s a R L pg ws fr V i x fp b ce, av = [.ref (B 0), .int (nI i), .int (b2i b)] ∧ rS G M B s a R pg ws fr V ∧ sR R L (V 16) ∧ kd L ∧ R[i]? = some x ∧ iK x.1 = wt s ws 1 ∧ wOK s ws ∧ isn s ws 2 = true ∧ V 14 < iG x.1 ∧ fp + pg 0 + pg 1 + pg 2 + pg 3 = 6 ∧ (∀ c, c < 4 → (fi c L).length ≤ zp c * pg c) ∧ V 15 + 1 < 1000000000 ∧ V 16 + 1 < 2 ^ 31 ∧ a.length + 150 ≤ 600 ∧ ∀ M' pg' L' nn' a' fr' V', sto (if b = true then 11 else 12) s ws ce L pg (fp, V 14, V 15, V 17, V 18) = (pg', L', nn', a') → rA G M' B s (a ++ a') L' pg' ws fr' V' → vPost V V' nn' → rfr B M M' → Post none M'
set_option maxHeartbeats 4000000 in
set_option maxRecDepth 100000 in
theorem c_Mod_doCount (l : Launch) (G : sp_G) : sp_Met l G y_Mod_doCount b_Mod_doCount 7 none { frames := 5, locals := 125 } (T_Mod_doCount G) := by
  refine sp_entry (by decide) (fun av M Post h => ?_) (fun z M av Post hz _ hT => ?_)
  · obtain ⟨B, s, a, R, L, pg, ws, fr, V, i, x, fp, b, ce, rfl, -⟩ := h
    exact Nat.le_of_ble_eq_true rfl
  · obtain ⟨B, s, a, R, L, pg, ws, fr, V, i, x, fp, b, ce, rfl, hS, hsr, hkd, hx, hxk, hwo, hisn, hti, hfp, hle, hv15, hv16, ha, hp⟩ := hT
    have hlt := (List.getElem?_eq_some_iff.mp hx).1
    have b3 : R.length ≤ 48 := hS.bl.2.2.2.1
    have hw := (hS.cl4.1 x (List.mem_of_getElem? hx)).1
    have hd64 : (iD x.1).length ≤ 64 := by have := hw.2.2.1; omega
    have hin : vp_in (nI i) 48 := nI_in (by omega) (by decide)
    have ci := nI_clamp (show i < 2 ^ 31 by omega)
    have hfs := hsr.fd hkd hx
    rw [hxk] at hfs
    have hS' := hS
    obtain ⟨F, K, h0, ⟨l1, l3, l5, l21, l25⟩, ⟨t2, t4, t26, tw, ti, tp⟩, ⟨b1, b2, -, b4, b5⟩, hch, hit, hr⟩ := hS'
    have h8 : M (B 8) = some (.inl (G.2.1 1, 48, .inl (F 8))) := h0.a 8 rfl
    have h9 : M (B 9) = some (.inl (G.2.1 0, 3072, .inl (F 9))) := h0.a 9 rfl
    obtain ⟨tk, tf, tl, tt, tg, tu, td⟩ := ti i x hx
    have hseg := seg_all (iD x.1)
    have hobs : obs (if b = true then 11 else 12) s ws (some x.1) = if pu_isnum (iD x.1) 0 (iD x.1).length = true then 11 else 14 := by cases b <;> rfl
    -- no number
    have bad : ∀ (L0 : sp_L) v, (∀ q ∈ [(0, .ref (B 0)), (3, .int v)], q ∈ L0) → v < 0 → pu_isnum (iD x.1) 0 (iD x.1).length = false → sp_W z G M (sp_Q z G M Post 0 0) 7 0 0 88 L0 [] M := by
      intro L0 v hL0 hv hno
      refine sp_Lm _ hL0 ?_
      have es : sto (if b = true then 11 else 12) s ws ce L pg (fp, V 14, V 15, V 17, V 18) = (pg, L, (fp, V 14, V 15, V 17, V 18), sv 14) := by
        unfold sto
        rw [hfs, hobs, hno, if_pos (show (if false = true then 11 else 14) ≠ 11 by decide)]
        rfl
      refine sp_run hz _ _ e_Mod_doCount_88 _ _ _ ?_
      simp only [k_Mod_doCount_88, E_nil, E_iconst, E_bipush, E_sipush, E_ldc, E_ldc2, E_lconst, E_null, E_iload_n, E_lload_n, E_aload_n, E_istore_n, E_lstore_n, E_astore_n, E_astoreN_n, E_iload, E_lload, E_aload, E_istore, E_lstore, E_astore, E_astoreN, E_ldi, E_ldl, E_lda, E_ldN, E_iinc, E_iadd, E_isub, E_imul, E_iand, E_ior, E_ixor, E_ishl, E_ishr, E_idiv, E_irem, E_ineg, E_ladd, E_lsub, E_land, E_lor, E_lcmp, E_lshl, E_lshr, E_lushr, E_i2l, E_l2i, E_i2c, E_dupI, E_popI, E_dup_x1II, E_dup2II, E_dup_x1IR, E_dup2IR, E_dup_x1IN, E_dup2IN, E_dupR, E_popR, E_dup_x1RI, E_dup2RI, E_dup_x1RR, E_dup2RR, E_dup_x1RN, E_dup2RN, E_dupN, E_popN, E_dup_x1NI, E_dup2NI, E_dup_x1NR, E_dup2NR, E_dup_x1NN, E_dup2NN, E_goto, E_if_eq, E_if_ne, E_if_lt, E_if_ge, E_if_gt, E_if_le, E_ic_eq, E_ic_ne, E_ic_lt, E_ic_ge, E_ic_gt, E_ic_le, E_ifnull, E_ifnullN, E_ifnonnull, E_ifnonnullN, E_get, E_gf, E_xv, E_n0, E_ns, E_putI, E_putR, E_putN, E_pf, E_st0, E_sts, E_iaload, E_caload, E_laload, E_aaload, E_alen, E_iast, E_cast, E_last, E_xI, E_xJ, E_xQ, E_xN, E_lk, E_lkn, E_s1, E_s1h, E_s1I, E_s1R, E_s1N, E_s1L, E_s2, E_s2h, E_s2L, E_s2I, E_s2R, E_s2N, E_a1, E_a0, E_aI, E_aR, E_aN, E_aL, Option.isSome_some, eq_self, true_and, and_true, true_or, or_true, ne_eq, not_false_eq_true, not_true_eq_false, reduceIte, reduceCtorEq, Nat.reduceAdd, Nat.reduceBEq, Nat.reduceEqDiff, Option.toList_some, Option.toList_none, List.cons_append, List.nil_append]
      refine ⟨fun h => absurd hv (Int32.not_lt.mpr h), fun _ => ?_⟩
      refine sp_callV hz (c_Mod_noNumber l G) (ci := 8) (As := []) (rest := []) rfl w_Mod_303 (by decide) hS.o rfl (Nat.le_of_ble_eq_true rfl) d_Mod_doCount_93 ⟨B, s, a, R, pg, ws, fr, V, rfl, hS, by omega, fun M1 hS1 hf1 => ?_⟩ rfl
      refine sp_vret hz d_Mod_doCount_96 (Nat.le_refl _) (Nat.le_refl _) (hp M1 _ _ _ _ fr _ es ⟨R, hS1, hsr, hkd⟩ ⟨rfl, rfl, rfl, rfl, by show V 16 ≤ _; omega, fun q hq => ?_⟩ hf1)
      exact up_n _ _ (fun e => hq (by rw [e]; simp))
    have bad26 : ∀ (L0 : sp_L), (∀ q ∈ [(0, .ref (B 0)), (1, .int (nI i))], q ∈ L0) → ¬ (1 ≤ (iD x.1).length ∧ (iD x.1).length ≤ 9) → sp_W z G M (sp_Q z G M Post 0 0) 7 0 0 21 L0 [] M := by
      intro L0 hL0 hb
      refine sp_Lm _ hL0 ?_
      have e : pu_isnum (iD x.1) 0 (iD x.1).length = false := by
        unfold pu_isnum
        by_cases q : 1 ≤ (iD x.1).length
        · rw [decide_eq_false (p := (iD x.1).length ≤ 9) (by omega), Bool.and_false, Bool.false_and]
        · rw [decide_eq_false q, Bool.false_and, Bool.false_and]
      refine sp_run hz _ _ e_Mod_doCount_21 _ _ _ ?_
      simp only [k_Mod_doCount_21, E_nil, E_iconst, E_bipush, E_sipush, E_ldc, E_ldc2, E_lconst, E_null, E_iload_n, E_lload_n, E_aload_n, E_istore_n, E_lstore_n, E_astore_n, E_astoreN_n, E_iload, E_lload, E_aload, E_istore, E_lstore, E_astore, E_astoreN, E_ldi, E_ldl, E_lda, E_ldN, E_iinc, E_iadd, E_isub, E_imul, E_iand, E_ior, E_ixor, E_ishl, E_ishr, E_idiv, E_irem, E_ineg, E_ladd, E_lsub, E_land, E_lor, E_lcmp, E_lshl, E_lshr, E_lushr, E_i2l, E_l2i, E_i2c, E_dupI, E_popI, E_dup_x1II, E_dup2II, E_dup_x1IR, E_dup2IR, E_dup_x1IN, E_dup2IN, E_dupR, E_popR, E_dup_x1RI, E_dup2RI, E_dup_x1RR, E_dup2RR, E_dup_x1RN, E_dup2RN, E_dupN, E_popN, E_dup_x1NI, E_dup2NI, E_dup_x1NR, E_dup2NR, E_dup_x1NN, E_dup2NN, E_goto, E_if_eq, E_if_ne, E_if_lt, E_if_ge, E_if_gt, E_if_le, E_ic_eq, E_ic_ne, E_ic_lt, E_ic_ge, E_ic_gt, E_ic_le, E_ifnull, E_ifnullN, E_ifnonnull, E_ifnonnullN, E_get, E_gf, E_xv, E_n0, E_ns, E_putI, E_putR, E_putN, E_pf, E_st0, E_sts, E_iaload, E_caload, E_laload, E_aaload, E_alen, E_iast, E_cast, E_last, E_xI, E_xJ, E_xQ, E_xN, E_lk, E_lkn, E_s1, E_s1h, E_s1I, E_s1R, E_s1N, E_s1L, E_s2, E_s2h, E_s2L, E_s2I, E_s2R, E_s2N, E_a1, E_a0, E_aI, E_aR, E_aN, E_aL, Option.isSome_some, eq_self, true_and, and_true, true_or, or_true, ne_eq, not_false_eq_true, not_true_eq_false, reduceIte, reduceCtorEq, Nat.reduceAdd, Nat.reduceBEq, Nat.reduceEqDiff, Option.toList_some, Option.toList_none, List.cons_append, List.nil_append]
      refine sp_run hz _ _ e_Mod_doCount_26 _ _ _ ?_
      simp only [k_Mod_doCount_26, E_nil, E_iconst, E_bipush, E_sipush, E_ldc, E_ldc2, E_lconst, E_null, E_iload_n, E_lload_n, E_aload_n, E_istore_n, E_lstore_n, E_astore_n, E_astoreN_n, E_iload, E_lload, E_aload, E_istore, E_lstore, E_astore, E_astoreN, E_ldi, E_ldl, E_lda, E_ldN, E_iinc, E_iadd, E_isub, E_imul, E_iand, E_ior, E_ixor, E_ishl, E_ishr, E_idiv, E_irem, E_ineg, E_ladd, E_lsub, E_land, E_lor, E_lcmp, E_lshl, E_lshr, E_lushr, E_i2l, E_l2i, E_i2c, E_dupI, E_popI, E_dup_x1II, E_dup2II, E_dup_x1IR, E_dup2IR, E_dup_x1IN, E_dup2IN, E_dupR, E_popR, E_dup_x1RI, E_dup2RI, E_dup_x1RR, E_dup2RR, E_dup_x1RN, E_dup2RN, E_dupN, E_popN, E_dup_x1NI, E_dup2NI, E_dup_x1NR, E_dup2NR, E_dup_x1NN, E_dup2NN, E_goto, E_if_eq, E_if_ne, E_if_lt, E_if_ge, E_if_gt, E_if_le, E_ic_eq, E_ic_ne, E_ic_lt, E_ic_ge, E_ic_gt, E_ic_le, E_ifnull, E_ifnullN, E_ifnonnull, E_ifnonnullN, E_get, E_gf, E_xv, E_n0, E_ns, E_putI, E_putR, E_putN, E_pf, E_st0, E_sts, E_iaload, E_caload, E_laload, E_aaload, E_alen, E_iast, E_cast, E_last, E_xI, E_xJ, E_xQ, E_xN, E_lk, E_lkn, E_s1, E_s1h, E_s1I, E_s1R, E_s1N, E_s1L, E_s2, E_s2h, E_s2L, E_s2I, E_s2R, E_s2N, E_a1, E_a0, E_aI, E_aR, E_aN, E_aL, Option.isSome_some, eq_self, true_and, and_true, true_or, or_true, ne_eq, not_false_eq_true, not_true_eq_false, reduceIte, reduceCtorEq, Nat.reduceAdd, Nat.reduceBEq, Nat.reduceEqDiff, Option.toList_some, Option.toList_none, List.cons_append, List.nil_append]
      refine sp_run hz _ _ e_Mod_doCount_30 _ _ _ ?_
      simp only [k_Mod_doCount_30, E_nil, E_iconst, E_bipush, E_sipush, E_ldc, E_ldc2, E_lconst, E_null, E_iload_n, E_lload_n, E_aload_n, E_istore_n, E_lstore_n, E_astore_n, E_astoreN_n, E_iload, E_lload, E_aload, E_istore, E_lstore, E_astore, E_astoreN, E_ldi, E_ldl, E_lda, E_ldN, E_iinc, E_iadd, E_isub, E_imul, E_iand, E_ior, E_ixor, E_ishl, E_ishr, E_idiv, E_irem, E_ineg, E_ladd, E_lsub, E_land, E_lor, E_lcmp, E_lshl, E_lshr, E_lushr, E_i2l, E_l2i, E_i2c, E_dupI, E_popI, E_dup_x1II, E_dup2II, E_dup_x1IR, E_dup2IR, E_dup_x1IN, E_dup2IN, E_dupR, E_popR, E_dup_x1RI, E_dup2RI, E_dup_x1RR, E_dup2RR, E_dup_x1RN, E_dup2RN, E_dupN, E_popN, E_dup_x1NI, E_dup2NI, E_dup_x1NR, E_dup2NR, E_dup_x1NN, E_dup2NN, E_goto, E_if_eq, E_if_ne, E_if_lt, E_if_ge, E_if_gt, E_if_le, E_ic_eq, E_ic_ne, E_ic_lt, E_ic_ge, E_ic_gt, E_ic_le, E_ifnull, E_ifnullN, E_ifnonnull, E_ifnonnullN, E_get, E_gf, E_xv, E_n0, E_ns, E_putI, E_putR, E_putN, E_pf, E_st0, E_sts, E_iaload, E_caload, E_laload, E_aaload, E_alen, E_iast, E_cast, E_last, E_xI, E_xJ, E_xQ, E_xN, E_lk, E_lkn, E_s1, E_s1h, E_s1I, E_s1R, E_s1N, E_s1L, E_s2, E_s2h, E_s2L, E_s2I, E_s2R, E_s2N, E_a1, E_a0, E_aI, E_aR, E_aN, E_aL, Option.isSome_some, eq_self, true_and, and_true, true_or, or_true, ne_eq, not_false_eq_true, not_true_eq_false, reduceIte, reduceCtorEq, Nat.reduceAdd, Nat.reduceBEq, Nat.reduceEqDiff, Option.toList_some, Option.toList_none, List.cons_append, List.nil_append, h0.o, h8, rn_8, hin, ci, tl]
      exact ⟨fun _ => bad _ _ (by simp; rfl) (by decide) e, fun _ => ⟨fun _ => bad _ _ (by simp; rfl) (by decide) e, fun h => absurd (by decide) h⟩⟩
    -- a number
    have good : pu_isnum (iD x.1) 0 (iD x.1).length = true → ∀ (L0 : sp_L), (∀ q ∈ [(0, .ref (B 0)), (1, .int (nI i)), (2, .int (b2i b)), (3, .int (nI (pu_val (iD x.1))))], q ∈ L0) → sp_W z G M (sp_Q z G M Post 0 0) 7 0 0 88 L0 [] M := by
      intro hyes L0 hL0
      refine sp_Lm _ hL0 ?_
      obtain ⟨g1, g2, g3⟩ := isnum_e hyes
      have hv9 : pu_val (iD x.1) < 1000000000 := by
        have h1 := pu_val_lt _ _ _ g3
        rw [hseg] at h1
        have h2 : 10 ^ (iD x.1).length ≤ 10 ^ 9 := Nat.pow_le_pow_right (by decide) g2
        omega
      obtain ⟨w1, w2, w3⟩ := isnum_e hisn
      have hw9 : pu_val (wt s ws 2) < 1000000000 := by
        have h1 := pu_val_lt _ _ _ w3
        have h2 : 10 ^ wL ws 2 ≤ 10 ^ 9 := Nat.pow_le_pow_right (by decide) w2
        show pu_val (pu_seg s (wS ws 2) (wL ws 2)) < _
        omega
      have enu : nuv s (wS ws 2 + 0) (wL ws 2 - 0) = nI (pu_val (wt s ws 2)) := by
        unfold nuv
        rw [if_pos (show pu_isnum s (wS ws 2 + 0) (wL ws 2 - 0) = true from hisn)]
        rfl
      have hsm := cnt_lt (b := b) (w := pu_val (wt s ws 2)) hv9
      generalize hsum : cnt b (pu_val (iD x.1)) (pu_val (wt s ws 2)) = sum at hsm
      have hdch := dec_ch hsm
      have hdl := dec_len sum
      have hchg : chg (if b = true then 11 else 12) s ws ce x.1 = pu_dec sum := by
        rw [← hsum]
        cases b <;> rfl
      have hnxi : nxi (if b = true then 11 else 12) s ws ce (V 14) (some x.1) = (wt s ws 1, pu_dec sum, iF x.1, 0, iG x.1) := by
        rw [← hchg]
        cases b <;> rfl
      have hko := hw.k
      rw [hxk] at hko
      have hk1 : 1 ≤ (wt s ws 1).length := by rw [← hxk]; exact hw.1
      have esto : sto (if b = true then 11 else 12) s ws ce L pg (fp, V 14, V 15, V 17, V 18) = (if rfs ((wt s ws 1).length + (pu_dec sum).length) pg fp ≠ 17 then (pg, L, (fp, V 14, V 15, V 17, V 18), sv (rfs ((wt s ws 1).length + (pu_dec sum).length) pg fp)) else ((pta (wt s ws 1, pu_dec sum, iF x.1, 0, iG x.1) L pg (fp, V 14, V 15, V 17, V 18)).1, (pta (wt s ws 1, pu_dec sum, iF x.1, 0, iG x.1) L pg (fp, V 14, V 15, V 17, V 18)).2.1, (pta (wt s ws 1, pu_dec sum, iF x.1, 0, iG x.1) L pg (fp, V 14, V 15, V 17, V 18)).2.2, pu_dec sum)) := by
        unfold sto
        rw [hfs, hobs, hyes, if_pos rfl, if_neg (fun q => q rfl)]
        show (if rfs ((iK (nxi (if b = true then 11 else 12) s ws ce (V 14) (some x.1))).length + (iD (nxi (if b = true then 11 else 12) s ws ce (V 14) (some x.1))).length) pg fp ≠ 17 then _ else _) = _
        rw [hnxi]
        cases b <;> rfl
      -- the store
      have k199 : ∀ M1 (L0 : sp_L), (∀ q ∈ [(0, .ref (B 0)), (1, .int (nI i)), (5, .int (nI sum))], q ∈ L0) → rS G M1 B s a R pg ws (pu_dec sum) (up V 25 (pu_dec sum).length) → rfr B M M1 → sp_W z G M (sp_Q z G M Post 0 0) 7 0 0 199 L0 [] M1 := by
        intro M1 L0 hL0 hS1 hf1
        refine sp_Lm _ hL0 ?_
        have hS1' := hS1
        obtain ⟨F1, K1, q0, -, ⟨-, -, -, -, ti1, -⟩, -⟩ := hS1'
        have h6 := q0.k
        have h7 : M1 (B 7) = some (.inl (G.2.1 1, 48, .inl (F1 7))) := q0.a 7 rfl
        have h11 : M1 (B 11) = some (.inl (G.2.1 1, 48, .inl (F1 11))) := q0.a 11 rfl
        obtain ⟨uk, uf, ul, ut, ug, uu, ud⟩ := ti1 i x hx
        refine sp_run hz _ _ e_Mod_doCount_199 _ _ _ ?_
        simp only [k_Mod_doCount_199, E_nil, E_iconst, E_bipush, E_sipush, E_ldc, E_ldc2, E_lconst, E_null, E_iload_n, E_lload_n, E_aload_n, E_istore_n, E_lstore_n, E_astore_n, E_astoreN_n, E_iload, E_lload, E_aload, E_istore, E_lstore, E_astore, E_astoreN, E_ldi, E_ldl, E_lda, E_ldN, E_iinc, E_iadd, E_isub, E_imul, E_iand, E_ior, E_ixor, E_ishl, E_ishr, E_idiv, E_irem, E_ineg, E_ladd, E_lsub, E_land, E_lor, E_lcmp, E_lshl, E_lshr, E_lushr, E_i2l, E_l2i, E_i2c, E_dupI, E_popI, E_dup_x1II, E_dup2II, E_dup_x1IR, E_dup2IR, E_dup_x1IN, E_dup2IN, E_dupR, E_popR, E_dup_x1RI, E_dup2RI, E_dup_x1RR, E_dup2RR, E_dup_x1RN, E_dup2RN, E_dupN, E_popN, E_dup_x1NI, E_dup2NI, E_dup_x1NR, E_dup2NR, E_dup_x1NN, E_dup2NN, E_goto, E_if_eq, E_if_ne, E_if_lt, E_if_ge, E_if_gt, E_if_le, E_ic_eq, E_ic_ne, E_ic_lt, E_ic_ge, E_ic_gt, E_ic_le, E_ifnull, E_ifnullN, E_ifnonnull, E_ifnonnullN, E_get, E_gf, E_xv, E_n0, E_ns, E_putI, E_putR, E_putN, E_pf, E_st0, E_sts, E_iaload, E_caload, E_laload, E_aaload, E_alen, E_iast, E_cast, E_last, E_xI, E_xJ, E_xQ, E_xN, E_lk, E_lkn, E_s1, E_s1h, E_s1I, E_s1R, E_s1N, E_s1L, E_s2, E_s2h, E_s2L, E_s2I, E_s2R, E_s2N, E_a1, E_a0, E_aI, E_aR, E_aN, E_aL, Option.isSome_some, eq_self, true_and, and_true, true_or, or_true, ne_eq, not_false_eq_true, not_true_eq_false, reduceIte, reduceCtorEq, Nat.reduceAdd, Nat.reduceBEq, Nat.reduceEqDiff, Option.toList_some, Option.toList_none, List.cons_append, List.nil_append, q0.o, h6, h7, h11, rn_6, rn_7, rn_11, hin, ci, uk, uf, ug]
        have hv3 : ∀ j, j ∉ [3, 5, 15, 16, 17, 18, 25] → up V 25 (pu_dec sum).length j = V j := fun j hj => up_n _ _ (fun e => hj (by rw [e]; simp))
        refine sp_callV hz (c_Mod_store l G) (ci := 8) (As := [.long (lN (pkl (iK x.1))), .int (nI (iF x.1)), .int (nI (gz (iG x.1)))]) (rest := []) rfl w_Mod_277 (by decide) q0.o rfl (Nat.le_of_ble_eq_true rfl) d_Mod_doCount_218 ⟨B, s, a, L, pg, ws, pu_dec sum, up V 25 (pu_dec sum).length, iK x.1, iF x.1, iG x.1, fp, rfl, ⟨R, hS1, hsr, hkd⟩, hw.k, hw.1, hdch, hw.2.2.2.2.2.1, hw.2.2.2.2.2.2.2.2, hw.2.2.2.2.2.2.2.1, hfp, hle, hv15, hv16, by omega, fun hr17 M2 hA2 hf2 => ?_, fun hr17 h64 M2 V2 hA2 e15 e16 e17 hvs hf2 => ?_⟩ rfl
        · rw [hxk] at hr17 hA2
          rw [if_pos hr17] at esto
          refine sp_run hz _ _ e_Mod_doCount_221 _ _ _ ?_
          simp only [k_Mod_doCount_221, E_nil, E_iconst, E_bipush, E_sipush, E_ldc, E_ldc2, E_lconst, E_null, E_iload_n, E_lload_n, E_aload_n, E_istore_n, E_lstore_n, E_astore_n, E_astoreN_n, E_iload, E_lload, E_aload, E_istore, E_lstore, E_astore, E_astoreN, E_ldi, E_ldl, E_lda, E_ldN, E_iinc, E_iadd, E_isub, E_imul, E_iand, E_ior, E_ixor, E_ishl, E_ishr, E_idiv, E_irem, E_ineg, E_ladd, E_lsub, E_land, E_lor, E_lcmp, E_lshl, E_lshr, E_lushr, E_i2l, E_l2i, E_i2c, E_dupI, E_popI, E_dup_x1II, E_dup2II, E_dup_x1IR, E_dup2IR, E_dup_x1IN, E_dup2IN, E_dupR, E_popR, E_dup_x1RI, E_dup2RI, E_dup_x1RR, E_dup2RR, E_dup_x1RN, E_dup2RN, E_dupN, E_popN, E_dup_x1NI, E_dup2NI, E_dup_x1NR, E_dup2NR, E_dup_x1NN, E_dup2NN, E_goto, E_if_eq, E_if_ne, E_if_lt, E_if_ge, E_if_gt, E_if_le, E_ic_eq, E_ic_ne, E_ic_lt, E_ic_ge, E_ic_gt, E_ic_le, E_ifnull, E_ifnullN, E_ifnonnull, E_ifnonnullN, E_get, E_gf, E_xv, E_n0, E_ns, E_putI, E_putR, E_putN, E_pf, E_st0, E_sts, E_iaload, E_caload, E_laload, E_aaload, E_alen, E_iast, E_cast, E_last, E_xI, E_xJ, E_xQ, E_xN, E_lk, E_lkn, E_s1, E_s1h, E_s1I, E_s1R, E_s1N, E_s1L, E_s2, E_s2h, E_s2L, E_s2I, E_s2R, E_s2N, E_a1, E_a0, E_aI, E_aR, E_aN, E_aL, Option.isSome_some, eq_self, true_and, and_true, true_or, or_true, ne_eq, not_false_eq_true, not_true_eq_false, reduceIte, reduceCtorEq, Nat.reduceAdd, Nat.reduceBEq, Nat.reduceEqDiff, Option.toList_some, Option.toList_none, List.cons_append, List.nil_append]
          refine ⟨fun _ => ?_, fun h => h.elim⟩
          refine sp_vret hz d_Mod_doCount_230 (Nat.le_refl _) (Nat.le_refl _) (hp M2 _ _ _ _ _ _ esto hA2 ⟨rfl, rfl, rfl, rfl, by show V 16 ≤ _; omega, fun q hq => ?_⟩ (hf1.trans hf2))
          rw [up_n _ _ (fun e => hq (by rw [e]; simp))]
          exact hv3 q hq
        · rw [hxk] at hr17 hA2 h64 e17
          rw [if_neg (show ¬ rfs ((wt s ws 1).length + (pu_dec sum).length) pg fp ≠ 17 from fun q => q hr17)] at esto
          have ep := pta_e (x := (wt s ws 1, pu_dec sum, iF x.1, 0, iG x.1)) (L := L) (pg := pg) (nn := (fp, V 14, V 15, V 17, V 18)) h64 hti
          rw [ep] at esto
          obtain ⟨R2, hS2, hsr2, hkd2⟩ := hA2
          refine sp_run hz _ _ e_Mod_doCount_221 _ _ _ ?_
          simp only [k_Mod_doCount_221, E_nil, E_iconst, E_bipush, E_sipush, E_ldc, E_ldc2, E_lconst, E_null, E_iload_n, E_lload_n, E_aload_n, E_istore_n, E_lstore_n, E_astore_n, E_astoreN_n, E_iload, E_lload, E_aload, E_istore, E_lstore, E_astore, E_astoreN, E_ldi, E_ldl, E_lda, E_ldN, E_iinc, E_iadd, E_isub, E_imul, E_iand, E_ior, E_ixor, E_ishl, E_ishr, E_idiv, E_irem, E_ineg, E_ladd, E_lsub, E_land, E_lor, E_lcmp, E_lshl, E_lshr, E_lushr, E_i2l, E_l2i, E_i2c, E_dupI, E_popI, E_dup_x1II, E_dup2II, E_dup_x1IR, E_dup2IR, E_dup_x1IN, E_dup2IN, E_dupR, E_popR, E_dup_x1RI, E_dup2RI, E_dup_x1RR, E_dup2RR, E_dup_x1RN, E_dup2RN, E_dupN, E_popN, E_dup_x1NI, E_dup2NI, E_dup_x1NR, E_dup2NR, E_dup_x1NN, E_dup2NN, E_goto, E_if_eq, E_if_ne, E_if_lt, E_if_ge, E_if_gt, E_if_le, E_ic_eq, E_ic_ne, E_ic_lt, E_ic_ge, E_ic_gt, E_ic_le, E_ifnull, E_ifnullN, E_ifnonnull, E_ifnonnullN, E_get, E_gf, E_xv, E_n0, E_ns, E_putI, E_putR, E_putN, E_pf, E_st0, E_sts, E_iaload, E_caload, E_laload, E_aaload, E_alen, E_iast, E_cast, E_last, E_xI, E_xJ, E_xQ, E_xN, E_lk, E_lkn, E_s1, E_s1h, E_s1I, E_s1R, E_s1N, E_s1L, E_s2, E_s2h, E_s2L, E_s2I, E_s2R, E_s2N, E_a1, E_a0, E_aI, E_aR, E_aN, E_aL, Option.isSome_some, eq_self, true_and, and_true, true_or, or_true, ne_eq, not_false_eq_true, not_true_eq_false, reduceIte, reduceCtorEq, Nat.reduceAdd, Nat.reduceBEq, Nat.reduceEqDiff, Option.toList_some, Option.toList_none, List.cons_append, List.nil_append]
          refine ⟨fun h => absurd h (by decide), fun _ => ?_⟩
          refine m_num hz (by decide) d_Mod_doCount_227 (Nat.le_of_ble_eq_true rfl) sum hsm hS2 (by omega) (fun M3 hS3 f3 => ?_)
          refine sp_vret hz d_Mod_doCount_230 (Nat.le_refl _) (Nat.le_refl _) (hp M3 _ _ _ _ _ _ esto ⟨_, hS3, hsr2, hkd2⟩ ⟨?_, e15, e17, ?_, ?_, fun q hq => ?_⟩ ((hf1.trans hf2).trans f3))
          · rw [up_n _ _ (by decide), hvs 14 (by decide)]; rfl
          · rw [up_n _ _ (by decide), hvs 18 (by decide)]; rfl
          · rw [up_n _ _ (by decide), e16]
            show V 16 + 1 ≤ _
            omega
          · rw [up_n _ _ (fun e => hq (by rw [e]; simp)), hvs q (fun e => hq (by simp at e ⊢; omega))]
            exact hv3 q hq
      -- the digits
      have ret : ∀ M1 (L0 : sp_L), (∀ q ∈ [(0, .ref (B 0)), (1, .int (nI i)), (5, .int (nI sum)), (6, .int (nI 0))], q ∈ L0) → rS G M1 B s a R pg ws (pu_dec sum) (up V 25 (pu_dec sum).length) → rfr B M M1 → sp_W z G M (sp_Q z G M Post 0 0) 7 0 0 168 L0 [] M1 := by
        intro M1 L0 hL0 hS1 hf
        refine sp_Lm _ hL0 ?_
        refine sp_run hz _ _ e_Mod_doCount_168 _ _ _ ?_
        simp only [k_Mod_doCount_168, E_nil, E_iconst, E_bipush, E_sipush, E_ldc, E_ldc2, E_lconst, E_null, E_iload_n, E_lload_n, E_aload_n, E_istore_n, E_lstore_n, E_astore_n, E_astoreN_n, E_iload, E_lload, E_aload, E_istore, E_lstore, E_astore, E_astoreN, E_ldi, E_ldl, E_lda, E_ldN, E_iinc, E_iadd, E_isub, E_imul, E_iand, E_ior, E_ixor, E_ishl, E_ishr, E_idiv, E_irem, E_ineg, E_ladd, E_lsub, E_land, E_lor, E_lcmp, E_lshl, E_lshr, E_lushr, E_i2l, E_l2i, E_i2c, E_dupI, E_popI, E_dup_x1II, E_dup2II, E_dup_x1IR, E_dup2IR, E_dup_x1IN, E_dup2IN, E_dupR, E_popR, E_dup_x1RI, E_dup2RI, E_dup_x1RR, E_dup2RR, E_dup_x1RN, E_dup2RN, E_dupN, E_popN, E_dup_x1NI, E_dup2NI, E_dup_x1NR, E_dup2NR, E_dup_x1NN, E_dup2NN, E_goto, E_if_eq, E_if_ne, E_if_lt, E_if_ge, E_if_gt, E_if_le, E_ic_eq, E_ic_ne, E_ic_lt, E_ic_ge, E_ic_gt, E_ic_le, E_ifnull, E_ifnullN, E_ifnonnull, E_ifnonnullN, E_get, E_gf, E_xv, E_n0, E_ns, E_putI, E_putR, E_putN, E_pf, E_st0, E_sts, E_iaload, E_caload, E_laload, E_aaload, E_alen, E_iast, E_cast, E_last, E_xI, E_xJ, E_xQ, E_xN, E_lk, E_lkn, E_s1, E_s1h, E_s1I, E_s1R, E_s1N, E_s1L, E_s2, E_s2h, E_s2L, E_s2I, E_s2R, E_s2N, E_a1, E_a0, E_aI, E_aR, E_aN, E_aL, Option.isSome_some, eq_self, true_and, and_true, true_or, or_true, ne_eq, not_false_eq_true, not_true_eq_false, reduceIte, reduceCtorEq, Nat.reduceAdd, Nat.reduceBEq, Nat.reduceEqDiff, Option.toList_some, Option.toList_none, List.cons_append, List.nil_append]
        exact ⟨fun _ => k199 M1 _ (by simp) hS1 hf, fun h => absurd (by decide) h⟩
      have loop2 : ∀ k (f1 : List Nat) M1 (L0 : sp_L), (∀ q ∈ [(0, .ref (B 0)), (1, .int (nI i)), (5, .int (nI sum)), (6, .int (nI (10 ^ k)))], q ∈ L0) → k ≤ 8 → f1 ++ fdg sum k = pu_dec sum → rS G M1 B s a R pg ws f1 (up V 25 f1.length) → rfr B M M1 → sp_W z G M (sp_Q z G M Post 0 0) 7 0 0 168 L0 [] M1 := by
        intro k
        induction k with
        | zero =>
          intro f1 M1 L0 hL0 hk ea hS1 hf
          refine sp_Lm _ hL0 ?_
          have hfl : f1.length + 1 ≤ 10 := by
            have := congrArg List.length ea
            rw [List.length_append, fdg_len] at this
            omega
          have hd : 48 + sum / 10 ^ 0 % 10 < 65536 := by have := Nat.mod_lt (sum / 10 ^ 0) (show 0 < 10 by decide); omega
          refine sp_run hz _ _ e_Mod_doCount_168 _ _ _ ?_
          have hne : ¬ nI (10 ^ 0) = 0 := by decide
          simp only [k_Mod_doCount_168, E_nil, E_iconst, E_bipush, E_sipush, E_ldc, E_ldc2, E_lconst, E_null, E_iload_n, E_lload_n, E_aload_n, E_istore_n, E_lstore_n, E_astore_n, E_astoreN_n, E_iload, E_lload, E_aload, E_istore, E_lstore, E_astore, E_astoreN, E_ldi, E_ldl, E_lda, E_ldN, E_iinc, E_iadd, E_isub, E_imul, E_iand, E_ior, E_ixor, E_ishl, E_ishr, E_idiv, E_irem, E_ineg, E_ladd, E_lsub, E_land, E_lor, E_lcmp, E_lshl, E_lshr, E_lushr, E_i2l, E_l2i, E_i2c, E_dupI, E_popI, E_dup_x1II, E_dup2II, E_dup_x1IR, E_dup2IR, E_dup_x1IN, E_dup2IN, E_dupR, E_popR, E_dup_x1RI, E_dup2RI, E_dup_x1RR, E_dup2RR, E_dup_x1RN, E_dup2RN, E_dupN, E_popN, E_dup_x1NI, E_dup2NI, E_dup_x1NR, E_dup2NR, E_dup_x1NN, E_dup2NN, E_goto, E_if_eq, E_if_ne, E_if_lt, E_if_ge, E_if_gt, E_if_le, E_ic_eq, E_ic_ne, E_ic_lt, E_ic_ge, E_ic_gt, E_ic_le, E_ifnull, E_ifnullN, E_ifnonnull, E_ifnonnullN, E_get, E_gf, E_xv, E_n0, E_ns, E_putI, E_putR, E_putN, E_pf, E_st0, E_sts, E_iaload, E_caload, E_laload, E_aaload, E_alen, E_iast, E_cast, E_last, E_xI, E_xJ, E_xQ, E_xN, E_lk, E_lkn, E_s1, E_s1h, E_s1I, E_s1R, E_s1N, E_s1L, E_s2, E_s2h, E_s2L, E_s2I, E_s2R, E_s2N, E_a1, E_a0, E_aI, E_aR, E_aN, E_aL, Option.isSome_some, eq_self, true_and, and_true, true_or, or_true, ne_eq, not_false_eq_true, not_true_eq_false, reduceIte, reduceCtorEq, Nat.reduceAdd, Nat.reduceBEq, Nat.reduceEqDiff, Option.toList_some, Option.toList_none, List.cons_append, List.nil_append, i10, hne, pk_div (a := sum) (d := 10 ^ 0) (by omega) (by decide) (by decide)]
          refine ⟨fun h => absurd h (by decide), fun _ => ?_⟩
          have e1 : nI (sum / 10 ^ 0) - nI (sum / 10 ^ 0) / 10 * 10 = nI (sum / 10 ^ 0 % 10) := pk_rem (d := 10) (Nat.lt_of_le_of_lt (Nat.div_le_self _ _) (by omega)) (by decide) (by decide)
          rw [e1, show (48 : Int32) + nI (sum / 10 ^ 0 % 10) = nI (48 + sum / 10 ^ 0 % 10) from (Int32.ofNat_add 48 _).symm, b_i2c hd]
          refine sp_callV hz (c_Mod_ready l G) (ci := 8) (As := [.int (nI (48 + sum / 10 ^ 0 % 10))]) (rest := []) rfl w_Mod_253 (by decide) hS1.o rfl (Nat.le_of_ble_eq_true rfl) d_Mod_doCount_186 ⟨B, s, a, R, pg, ws, f1, _, _, rfl, hS1, hd, by omega, fun M2 hS2 hf2 => ?_⟩ rfl
          rw [up_up] at hS2
          refine sp_run hz _ _ e_Mod_doCount_189 _ _ _ ?_
          simp only [k_Mod_doCount_189, E_nil, E_iconst, E_bipush, E_sipush, E_ldc, E_ldc2, E_lconst, E_null, E_iload_n, E_lload_n, E_aload_n, E_istore_n, E_lstore_n, E_astore_n, E_astoreN_n, E_iload, E_lload, E_aload, E_istore, E_lstore, E_astore, E_astoreN, E_ldi, E_ldl, E_lda, E_ldN, E_iinc, E_iadd, E_isub, E_imul, E_iand, E_ior, E_ixor, E_ishl, E_ishr, E_idiv, E_irem, E_ineg, E_ladd, E_lsub, E_land, E_lor, E_lcmp, E_lshl, E_lshr, E_lushr, E_i2l, E_l2i, E_i2c, E_dupI, E_popI, E_dup_x1II, E_dup2II, E_dup_x1IR, E_dup2IR, E_dup_x1IN, E_dup2IN, E_dupR, E_popR, E_dup_x1RI, E_dup2RI, E_dup_x1RR, E_dup2RR, E_dup_x1RN, E_dup2RN, E_dupN, E_popN, E_dup_x1NI, E_dup2NI, E_dup_x1NR, E_dup2NR, E_dup_x1NN, E_dup2NN, E_goto, E_if_eq, E_if_ne, E_if_lt, E_if_ge, E_if_gt, E_if_le, E_ic_eq, E_ic_ne, E_ic_lt, E_ic_ge, E_ic_gt, E_ic_le, E_ifnull, E_ifnullN, E_ifnonnull, E_ifnonnullN, E_get, E_gf, E_xv, E_n0, E_ns, E_putI, E_putR, E_putN, E_pf, E_st0, E_sts, E_iaload, E_caload, E_laload, E_aaload, E_alen, E_iast, E_cast, E_last, E_xI, E_xJ, E_xQ, E_xN, E_lk, E_lkn, E_s1, E_s1h, E_s1I, E_s1R, E_s1N, E_s1L, E_s2, E_s2h, E_s2L, E_s2I, E_s2R, E_s2N, E_a1, E_a0, E_aI, E_aR, E_aN, E_aL, Option.isSome_some, eq_self, true_and, and_true, true_or, or_true, ne_eq, not_false_eq_true, not_true_eq_false, reduceIte, reduceCtorEq, Nat.reduceAdd, Nat.reduceBEq, Nat.reduceEqDiff, Option.toList_some, Option.toList_none, List.cons_append, List.nil_append, i10]
          refine ret M2 _ (by simp; decide) ?_ (hf.trans hf2)
          rw [← ea]
          show rS G M2 B s a R pg ws (f1 ++ [48 + sum / 10 ^ 0 % 10]) (up V 25 (f1 ++ [48 + sum / 10 ^ 0 % 10]).length)
          rw [List.length_append]
          exact hS2
        | succ k ih =>
          intro f1 M1 L0 hL0 hk ea hS1 hf
          refine sp_Lm _ hL0 ?_
          have hfl : f1.length + (k + 2) ≤ 10 := by
            have := congrArg List.length ea
            rw [List.length_append, fdg_len] at this
            omega
          have hp31 := p10_lt hk
          have hp0 : 0 < 10 ^ (k + 1) := Nat.pow_pos (by decide)
          have hd : 48 + sum / 10 ^ (k + 1) % 10 < 65536 := by have := Nat.mod_lt (sum / 10 ^ (k + 1)) (show 0 < 10 by decide); omega
          refine sp_run hz _ _ e_Mod_doCount_168 _ _ _ ?_
          have hne : ¬ nI (10 ^ (k + 1)) = 0 := fun h => absurd ((nI_eq (b := 0) hp31 (by decide)).mp h) (by omega)
          simp only [k_Mod_doCount_168, E_nil, E_iconst, E_bipush, E_sipush, E_ldc, E_ldc2, E_lconst, E_null, E_iload_n, E_lload_n, E_aload_n, E_istore_n, E_lstore_n, E_astore_n, E_astoreN_n, E_iload, E_lload, E_aload, E_istore, E_lstore, E_astore, E_astoreN, E_ldi, E_ldl, E_lda, E_ldN, E_iinc, E_iadd, E_isub, E_imul, E_iand, E_ior, E_ixor, E_ishl, E_ishr, E_idiv, E_irem, E_ineg, E_ladd, E_lsub, E_land, E_lor, E_lcmp, E_lshl, E_lshr, E_lushr, E_i2l, E_l2i, E_i2c, E_dupI, E_popI, E_dup_x1II, E_dup2II, E_dup_x1IR, E_dup2IR, E_dup_x1IN, E_dup2IN, E_dupR, E_popR, E_dup_x1RI, E_dup2RI, E_dup_x1RR, E_dup2RR, E_dup_x1RN, E_dup2RN, E_dupN, E_popN, E_dup_x1NI, E_dup2NI, E_dup_x1NR, E_dup2NR, E_dup_x1NN, E_dup2NN, E_goto, E_if_eq, E_if_ne, E_if_lt, E_if_ge, E_if_gt, E_if_le, E_ic_eq, E_ic_ne, E_ic_lt, E_ic_ge, E_ic_gt, E_ic_le, E_ifnull, E_ifnullN, E_ifnonnull, E_ifnonnullN, E_get, E_gf, E_xv, E_n0, E_ns, E_putI, E_putR, E_putN, E_pf, E_st0, E_sts, E_iaload, E_caload, E_laload, E_aaload, E_alen, E_iast, E_cast, E_last, E_xI, E_xJ, E_xQ, E_xN, E_lk, E_lkn, E_s1, E_s1h, E_s1I, E_s1R, E_s1N, E_s1L, E_s2, E_s2h, E_s2L, E_s2I, E_s2R, E_s2N, E_a1, E_a0, E_aI, E_aR, E_aN, E_aL, Option.isSome_some, eq_self, true_and, and_true, true_or, or_true, ne_eq, not_false_eq_true, not_true_eq_false, reduceIte, reduceCtorEq, Nat.reduceAdd, Nat.reduceBEq, Nat.reduceEqDiff, Option.toList_some, Option.toList_none, List.cons_append, List.nil_append, i10, hne, pk_div (a := sum) (d := 10 ^ (k + 1)) (by omega) hp0 hp31]
          refine ⟨fun h => absurd ((nI_leI (b := 0) hp31 (by decide)).mp h) (by omega), fun _ => ?_⟩
          have e1 : nI (sum / 10 ^ (k + 1)) - nI (sum / 10 ^ (k + 1)) / 10 * 10 = nI (sum / 10 ^ (k + 1) % 10) := pk_rem (d := 10) (Nat.lt_of_le_of_lt (Nat.div_le_self _ _) (by omega)) (by decide) (by decide)
          rw [e1, show (48 : Int32) + nI (sum / 10 ^ (k + 1) % 10) = nI (48 + sum / 10 ^ (k + 1) % 10) from (Int32.ofNat_add 48 _).symm, b_i2c hd]
          refine sp_callV hz (c_Mod_ready l G) (ci := 8) (As := [.int (nI (48 + sum / 10 ^ (k + 1) % 10))]) (rest := []) rfl w_Mod_253 (by decide) hS1.o rfl (Nat.le_of_ble_eq_true rfl) d_Mod_doCount_186 ⟨B, s, a, R, pg, ws, f1, _, _, rfl, hS1, hd, by omega, fun M2 hS2 hf2 => ?_⟩ rfl
          rw [up_up] at hS2
          have e2 : nI (10 ^ (k + 1)) / 10 = nI (10 ^ k) := (pk_div (d := 10) hp31 (by decide) (by decide)).trans (by rw [p10_div])
          refine sp_run hz _ _ e_Mod_doCount_189 _ _ _ ?_
          simp only [k_Mod_doCount_189, E_nil, E_iconst, E_bipush, E_sipush, E_ldc, E_ldc2, E_lconst, E_null, E_iload_n, E_lload_n, E_aload_n, E_istore_n, E_lstore_n, E_astore_n, E_astoreN_n, E_iload, E_lload, E_aload, E_istore, E_lstore, E_astore, E_astoreN, E_ldi, E_ldl, E_lda, E_ldN, E_iinc, E_iadd, E_isub, E_imul, E_iand, E_ior, E_ixor, E_ishl, E_ishr, E_idiv, E_irem, E_ineg, E_ladd, E_lsub, E_land, E_lor, E_lcmp, E_lshl, E_lshr, E_lushr, E_i2l, E_l2i, E_i2c, E_dupI, E_popI, E_dup_x1II, E_dup2II, E_dup_x1IR, E_dup2IR, E_dup_x1IN, E_dup2IN, E_dupR, E_popR, E_dup_x1RI, E_dup2RI, E_dup_x1RR, E_dup2RR, E_dup_x1RN, E_dup2RN, E_dupN, E_popN, E_dup_x1NI, E_dup2NI, E_dup_x1NR, E_dup2NR, E_dup_x1NN, E_dup2NN, E_goto, E_if_eq, E_if_ne, E_if_lt, E_if_ge, E_if_gt, E_if_le, E_ic_eq, E_ic_ne, E_ic_lt, E_ic_ge, E_ic_gt, E_ic_le, E_ifnull, E_ifnullN, E_ifnonnull, E_ifnonnullN, E_get, E_gf, E_xv, E_n0, E_ns, E_putI, E_putR, E_putN, E_pf, E_st0, E_sts, E_iaload, E_caload, E_laload, E_aaload, E_alen, E_iast, E_cast, E_last, E_xI, E_xJ, E_xQ, E_xN, E_lk, E_lkn, E_s1, E_s1h, E_s1I, E_s1R, E_s1N, E_s1L, E_s2, E_s2h, E_s2L, E_s2I, E_s2R, E_s2N, E_a1, E_a0, E_aI, E_aR, E_aN, E_aL, Option.isSome_some, eq_self, true_and, and_true, true_or, or_true, ne_eq, not_false_eq_true, not_true_eq_false, reduceIte, reduceCtorEq, Nat.reduceAdd, Nat.reduceBEq, Nat.reduceEqDiff, Option.toList_some, Option.toList_none, List.cons_append, List.nil_append, i10, e2]
          refine ih (f1 ++ [48 + sum / 10 ^ (k + 1) % 10]) M2 _ (by simp) (by omega) ?_ (by rw [List.length_append]; exact hS2) (hf.trans hf2)
          rw [List.append_assoc]
          exact ea
      have loop1 : ∀ k M1 (L0 : sp_L), (∀ q ∈ [(0, .ref (B 0)), (1, .int (nI i)), (5, .int (nI sum)), (6, .int (nI (10 ^ k)))], q ∈ L0) → k ≤ 8 → pu_dec sum = pu_dcl k sum → rS G M1 B s a R pg ws [] (up V 25 0) → rfr B M M1 → sp_W z G M (sp_Q z G M Post 0 0) 7 0 0 145 L0 [] M1 := by
        intro k
        induction k with
        | zero =>
          intro M1 L0 hL0 hk ea hS1 hf
          refine sp_Lm _ hL0 ?_
          refine sp_run hz _ _ e_Mod_doCount_145 _ _ _ ?_
          simp only [k_Mod_doCount_145, E_nil, E_iconst, E_bipush, E_sipush, E_ldc, E_ldc2, E_lconst, E_null, E_iload_n, E_lload_n, E_aload_n, E_istore_n, E_lstore_n, E_astore_n, E_astoreN_n, E_iload, E_lload, E_aload, E_istore, E_lstore, E_astore, E_astoreN, E_ldi, E_ldl, E_lda, E_ldN, E_iinc, E_iadd, E_isub, E_imul, E_iand, E_ior, E_ixor, E_ishl, E_ishr, E_idiv, E_irem, E_ineg, E_ladd, E_lsub, E_land, E_lor, E_lcmp, E_lshl, E_lshr, E_lushr, E_i2l, E_l2i, E_i2c, E_dupI, E_popI, E_dup_x1II, E_dup2II, E_dup_x1IR, E_dup2IR, E_dup_x1IN, E_dup2IN, E_dupR, E_popR, E_dup_x1RI, E_dup2RI, E_dup_x1RR, E_dup2RR, E_dup_x1RN, E_dup2RN, E_dupN, E_popN, E_dup_x1NI, E_dup2NI, E_dup_x1NR, E_dup2NR, E_dup_x1NN, E_dup2NN, E_goto, E_if_eq, E_if_ne, E_if_lt, E_if_ge, E_if_gt, E_if_le, E_ic_eq, E_ic_ne, E_ic_lt, E_ic_ge, E_ic_gt, E_ic_le, E_ifnull, E_ifnullN, E_ifnonnull, E_ifnonnullN, E_get, E_gf, E_xv, E_n0, E_ns, E_putI, E_putR, E_putN, E_pf, E_st0, E_sts, E_iaload, E_caload, E_laload, E_aaload, E_alen, E_iast, E_cast, E_last, E_xI, E_xJ, E_xQ, E_xN, E_lk, E_lkn, E_s1, E_s1h, E_s1I, E_s1R, E_s1N, E_s1L, E_s2, E_s2h, E_s2L, E_s2I, E_s2R, E_s2N, E_a1, E_a0, E_aI, E_aR, E_aN, E_aL, Option.isSome_some, eq_self, true_and, and_true, true_or, or_true, ne_eq, not_false_eq_true, not_true_eq_false, reduceIte, reduceCtorEq, Nat.reduceAdd, Nat.reduceBEq, Nat.reduceEqDiff, Option.toList_some, Option.toList_none, List.cons_append, List.nil_append, i10]
          exact ⟨fun _ => loop2 0 [] M1 _ (by simp) (by decide) (by rw [ea, fdg_e sum 0 (Or.inl rfl), List.nil_append]) hS1 hf, fun h => absurd (by decide) h⟩
        | succ k ih =>
          intro M1 L0 hL0 hk ea hS1 hf
          refine sp_Lm _ hL0 ?_
          have hp31 := p10_lt hk
          have hp0 : 0 < 10 ^ k := Nat.pow_pos (by decide)
          have e2 : nI (10 ^ (k + 1)) / 10 = nI (10 ^ k) := (pk_div (d := 10) hp31 (by decide) (by decide)).trans (by rw [p10_div])
          refine sp_run hz _ _ e_Mod_doCount_145 _ _ _ ?_
          simp only [k_Mod_doCount_145, E_nil, E_iconst, E_bipush, E_sipush, E_ldc, E_ldc2, E_lconst, E_null, E_iload_n, E_lload_n, E_aload_n, E_istore_n, E_lstore_n, E_astore_n, E_astoreN_n, E_iload, E_lload, E_aload, E_istore, E_lstore, E_astore, E_astoreN, E_ldi, E_ldl, E_lda, E_ldN, E_iinc, E_iadd, E_isub, E_imul, E_iand, E_ior, E_ixor, E_ishl, E_ishr, E_idiv, E_irem, E_ineg, E_ladd, E_lsub, E_land, E_lor, E_lcmp, E_lshl, E_lshr, E_lushr, E_i2l, E_l2i, E_i2c, E_dupI, E_popI, E_dup_x1II, E_dup2II, E_dup_x1IR, E_dup2IR, E_dup_x1IN, E_dup2IN, E_dupR, E_popR, E_dup_x1RI, E_dup2RI, E_dup_x1RR, E_dup2RR, E_dup_x1RN, E_dup2RN, E_dupN, E_popN, E_dup_x1NI, E_dup2NI, E_dup_x1NR, E_dup2NR, E_dup_x1NN, E_dup2NN, E_goto, E_if_eq, E_if_ne, E_if_lt, E_if_ge, E_if_gt, E_if_le, E_ic_eq, E_ic_ne, E_ic_lt, E_ic_ge, E_ic_gt, E_ic_le, E_ifnull, E_ifnullN, E_ifnonnull, E_ifnonnullN, E_get, E_gf, E_xv, E_n0, E_ns, E_putI, E_putR, E_putN, E_pf, E_st0, E_sts, E_iaload, E_caload, E_laload, E_aaload, E_alen, E_iast, E_cast, E_last, E_xI, E_xJ, E_xQ, E_xN, E_lk, E_lkn, E_s1, E_s1h, E_s1I, E_s1R, E_s1N, E_s1L, E_s2, E_s2h, E_s2L, E_s2I, E_s2R, E_s2N, E_a1, E_a0, E_aI, E_aR, E_aN, E_aL, Option.isSome_some, eq_self, true_and, and_true, true_or, or_true, ne_eq, not_false_eq_true, not_true_eq_false, reduceIte, reduceCtorEq, Nat.reduceAdd, Nat.reduceBEq, Nat.reduceEqDiff, Option.toList_some, Option.toList_none, List.cons_append, List.nil_append, i10, e2]
          refine ⟨fun h => absurd ((nI_leI (b := 1) hp31 (by decide)).mp h) (by rw [Nat.pow_succ]; omega), fun _ => ⟨fun h => ?_, fun h => ?_⟩⟩
          · have h1 := (nI_leI hp31 (by omega)).mp h
            exact loop2 (k + 1) [] M1 _ (by simp) hk (by rw [ea, fdg_e sum (k + 1) (Or.inr h1), List.nil_append]) hS1 hf
          · refine ih M1 _ (by simp) (by omega) ?_ hS1 hf
            rw [ea]
            show (if 10 ^ (k + 1) ≤ sum then _ else []) ++ pu_dcl k sum = _
            rw [if_neg (fun q => h ((nI_leI hp31 (by omega)).mpr q))]
            rfl
      have k134 : ∀ (L0 : sp_L), (∀ q ∈ [(0, .ref (B 0)), (1, .int (nI i))], q ∈ L0) → sp_W z G M (sp_Q z G M Post 0 0) 7 0 0 134 L0 [.int (nI sum)] M := by
        intro L0 hL0
        refine sp_Lm _ hL0 ?_
        refine sp_run hz _ _ e_Mod_doCount_134 _ _ _ ?_
        simp only [k_Mod_doCount_134, E_nil, E_iconst, E_bipush, E_sipush, E_ldc, E_ldc2, E_lconst, E_null, E_iload_n, E_lload_n, E_aload_n, E_istore_n, E_lstore_n, E_astore_n, E_astoreN_n, E_iload, E_lload, E_aload, E_istore, E_lstore, E_astore, E_astoreN, E_ldi, E_ldl, E_lda, E_ldN, E_iinc, E_iadd, E_isub, E_imul, E_iand, E_ior, E_ixor, E_ishl, E_ishr, E_idiv, E_irem, E_ineg, E_ladd, E_lsub, E_land, E_lor, E_lcmp, E_lshl, E_lshr, E_lushr, E_i2l, E_l2i, E_i2c, E_dupI, E_popI, E_dup_x1II, E_dup2II, E_dup_x1IR, E_dup2IR, E_dup_x1IN, E_dup2IN, E_dupR, E_popR, E_dup_x1RI, E_dup2RI, E_dup_x1RR, E_dup2RR, E_dup_x1RN, E_dup2RN, E_dupN, E_popN, E_dup_x1NI, E_dup2NI, E_dup_x1NR, E_dup2NR, E_dup_x1NN, E_dup2NN, E_goto, E_if_eq, E_if_ne, E_if_lt, E_if_ge, E_if_gt, E_if_le, E_ic_eq, E_ic_ne, E_ic_lt, E_ic_ge, E_ic_gt, E_ic_le, E_ifnull, E_ifnullN, E_ifnonnull, E_ifnonnullN, E_get, E_gf, E_xv, E_n0, E_ns, E_putI, E_putR, E_putN, E_pf, E_st0, E_sts, E_iaload, E_caload, E_laload, E_aaload, E_alen, E_iast, E_cast, E_last, E_xI, E_xJ, E_xQ, E_xN, E_lk, E_lkn, E_s1, E_s1h, E_s1I, E_s1R, E_s1N, E_s1L, E_s2, E_s2h, E_s2L, E_s2I, E_s2R, E_s2N, E_a1, E_a0, E_aI, E_aR, E_aN, E_aL, Option.isSome_some, eq_self, true_and, and_true, true_or, or_true, ne_eq, not_false_eq_true, not_true_eq_false, reduceIte, reduceCtorEq, Nat.reduceAdd, Nat.reduceBEq, Nat.reduceEqDiff, Option.toList_some, Option.toList_none, List.cons_append, List.nil_append, h0.o, rn_25, show ((rL B V).set 25 (.int 0)) = rL B (up V 25 0) from rfl, e8_p]
        refine loop1 8 _ _ (by simp) (Nat.le_refl _) ?_ hS.fr0 ((rfr.refl B M).u (j := 0) rfl)
        show (if 10 ^ 9 ≤ sum then _ else []) ++ pu_dcl 8 sum = _
        rw [if_neg (by omega)]
        rfl
      refine sp_run hz _ _ e_Mod_doCount_88 _ _ _ ?_
      simp only [k_Mod_doCount_88, E_nil, E_iconst, E_bipush, E_sipush, E_ldc, E_ldc2, E_lconst, E_null, E_iload_n, E_lload_n, E_aload_n, E_istore_n, E_lstore_n, E_astore_n, E_astoreN_n, E_iload, E_lload, E_aload, E_istore, E_lstore, E_astore, E_astoreN, E_ldi, E_ldl, E_lda, E_ldN, E_iinc, E_iadd, E_isub, E_imul, E_iand, E_ior, E_ixor, E_ishl, E_ishr, E_idiv, E_irem, E_ineg, E_ladd, E_lsub, E_land, E_lor, E_lcmp, E_lshl, E_lshr, E_lushr, E_i2l, E_l2i, E_i2c, E_dupI, E_popI, E_dup_x1II, E_dup2II, E_dup_x1IR, E_dup2IR, E_dup_x1IN, E_dup2IN, E_dupR, E_popR, E_dup_x1RI, E_dup2RI, E_dup_x1RR, E_dup2RR, E_dup_x1RN, E_dup2RN, E_dupN, E_popN, E_dup_x1NI, E_dup2NI, E_dup_x1NR, E_dup2NR, E_dup_x1NN, E_dup2NN, E_goto, E_if_eq, E_if_ne, E_if_lt, E_if_ge, E_if_gt, E_if_le, E_ic_eq, E_ic_ne, E_ic_lt, E_ic_ge, E_ic_gt, E_ic_le, E_ifnull, E_ifnullN, E_ifnonnull, E_ifnonnullN, E_get, E_gf, E_xv, E_n0, E_ns, E_putI, E_putR, E_putN, E_pf, E_st0, E_sts, E_iaload, E_caload, E_laload, E_aaload, E_alen, E_iast, E_cast, E_last, E_xI, E_xJ, E_xQ, E_xN, E_lk, E_lkn, E_s1, E_s1h, E_s1I, E_s1R, E_s1N, E_s1L, E_s2, E_s2h, E_s2L, E_s2I, E_s2R, E_s2N, E_a1, E_a0, E_aI, E_aR, E_aN, E_aL, Option.isSome_some, eq_self, true_and, and_true, true_or, or_true, ne_eq, not_false_eq_true, not_true_eq_false, reduceIte, reduceCtorEq, Nat.reduceAdd, Nat.reduceBEq, Nat.reduceEqDiff, Option.toList_some, Option.toList_none, List.cons_append, List.nil_append]
      refine ⟨fun _ => ?_, fun h => absurd (nI_pos' (by omega)) h⟩
      refine sp_run hz _ _ e_Mod_doCount_97 _ _ _ ?_
      simp only [k_Mod_doCount_97, E_nil, E_iconst, E_bipush, E_sipush, E_ldc, E_ldc2, E_lconst, E_null, E_iload_n, E_lload_n, E_aload_n, E_istore_n, E_lstore_n, E_astore_n, E_astoreN_n, E_iload, E_lload, E_aload, E_istore, E_lstore, E_astore, E_astoreN, E_ldi, E_ldl, E_lda, E_ldN, E_iinc, E_iadd, E_isub, E_imul, E_iand, E_ior, E_ixor, E_ishl, E_ishr, E_idiv, E_irem, E_ineg, E_ladd, E_lsub, E_land, E_lor, E_lcmp, E_lshl, E_lshr, E_lushr, E_i2l, E_l2i, E_i2c, E_dupI, E_popI, E_dup_x1II, E_dup2II, E_dup_x1IR, E_dup2IR, E_dup_x1IN, E_dup2IN, E_dupR, E_popR, E_dup_x1RI, E_dup2RI, E_dup_x1RR, E_dup2RR, E_dup_x1RN, E_dup2RN, E_dupN, E_popN, E_dup_x1NI, E_dup2NI, E_dup_x1NR, E_dup2NR, E_dup_x1NN, E_dup2NN, E_goto, E_if_eq, E_if_ne, E_if_lt, E_if_ge, E_if_gt, E_if_le, E_ic_eq, E_ic_ne, E_ic_lt, E_ic_ge, E_ic_gt, E_ic_le, E_ifnull, E_ifnullN, E_ifnonnull, E_ifnonnullN, E_get, E_gf, E_xv, E_n0, E_ns, E_putI, E_putR, E_putN, E_pf, E_st0, E_sts, E_iaload, E_caload, E_laload, E_aaload, E_alen, E_iast, E_cast, E_last, E_xI, E_xJ, E_xQ, E_xN, E_lk, E_lkn, E_s1, E_s1h, E_s1I, E_s1R, E_s1N, E_s1L, E_s2, E_s2h, E_s2L, E_s2I, E_s2R, E_s2N, E_a1, E_a0, E_aI, E_aR, E_aN, E_aL, Option.isSome_some, eq_self, true_and, and_true, true_or, or_true, ne_eq, not_false_eq_true, not_true_eq_false, reduceIte, reduceCtorEq, Nat.reduceAdd, Nat.reduceBEq, Nat.reduceEqDiff, Option.toList_some, Option.toList_none, List.cons_append, List.nil_append]
      refine sp_callV hz (c_Mod_numberIn l G) (ci := 8) (As := [.int (nI 2), .int (nI 0)]) (rest := []) rfl w_Mod_152 (by decide) hS.o rfl (Nat.le_of_ble_eq_true rfl) d_Mod_doCount_100 ⟨B, s, a, R, pg, ws, fr, V, 2, 0, rfl, hS, hwo, by decide, Nat.zero_le _, ?_⟩ rfl
      rw [enu]
      cases b with
      | true =>
        refine sp_run hz _ _ e_Mod_doCount_103 _ _ _ ?_
        simp only [k_Mod_doCount_103, E_nil, E_iconst, E_bipush, E_sipush, E_ldc, E_ldc2, E_lconst, E_null, E_iload_n, E_lload_n, E_aload_n, E_istore_n, E_lstore_n, E_astore_n, E_astoreN_n, E_iload, E_lload, E_aload, E_istore, E_lstore, E_astore, E_astoreN, E_ldi, E_ldl, E_lda, E_ldN, E_iinc, E_iadd, E_isub, E_imul, E_iand, E_ior, E_ixor, E_ishl, E_ishr, E_idiv, E_irem, E_ineg, E_ladd, E_lsub, E_land, E_lor, E_lcmp, E_lshl, E_lshr, E_lushr, E_i2l, E_l2i, E_i2c, E_dupI, E_popI, E_dup_x1II, E_dup2II, E_dup_x1IR, E_dup2IR, E_dup_x1IN, E_dup2IN, E_dupR, E_popR, E_dup_x1RI, E_dup2RI, E_dup_x1RR, E_dup2RR, E_dup_x1RN, E_dup2RN, E_dupN, E_popN, E_dup_x1NI, E_dup2NI, E_dup_x1NR, E_dup2NR, E_dup_x1NN, E_dup2NN, E_goto, E_if_eq, E_if_ne, E_if_lt, E_if_ge, E_if_gt, E_if_le, E_ic_eq, E_ic_ne, E_ic_lt, E_ic_ge, E_ic_gt, E_ic_le, E_ifnull, E_ifnullN, E_ifnonnull, E_ifnonnullN, E_get, E_gf, E_xv, E_n0, E_ns, E_putI, E_putR, E_putN, E_pf, E_st0, E_sts, E_iaload, E_caload, E_laload, E_aaload, E_alen, E_iast, E_cast, E_last, E_xI, E_xJ, E_xQ, E_xN, E_lk, E_lkn, E_s1, E_s1h, E_s1I, E_s1R, E_s1N, E_s1L, E_s2, E_s2h, E_s2L, E_s2I, E_s2R, E_s2N, E_a1, E_a0, E_aI, E_aR, E_aN, E_aL, Option.isSome_some, eq_self, true_and, and_true, true_or, or_true, ne_eq, not_false_eq_true, not_true_eq_false, reduceIte, reduceCtorEq, Nat.reduceAdd, Nat.reduceBEq, Nat.reduceEqDiff, Option.toList_some, Option.toList_none, List.cons_append, List.nil_append]
        refine ⟨fun h => absurd h (by decide), fun _ => ?_⟩
        refine sp_ldcw hz (j := 1234) (v := 1000000000) (by decide +kernel) d_Mod_doCount_113 ?_
        have e1 : nI (pu_val (iD x.1)) + nI (pu_val (wt s ws 2)) = nI (pu_val (iD x.1) + pu_val (wt s ws 2)) := (Int32.ofNat_add _ _).symm
        have e2 : nI (pu_val (iD x.1) + pu_val (wt s ws 2)) - nI (pu_val (iD x.1) + pu_val (wt s ws 2)) / 1000000000 * 1000000000 = nI sum := by
          rw [← hsum]
          exact pk_rem (d := 1000000000) (by omega) (by decide) (by decide)
        have hne : ¬ (1000000000 : Int32) = 0 := by decide
        refine sp_run hz _ _ e_Mod_doCount_116 _ _ _ ?_
        simp only [k_Mod_doCount_116, E_nil, E_iconst, E_bipush, E_sipush, E_ldc, E_ldc2, E_lconst, E_null, E_iload_n, E_lload_n, E_aload_n, E_istore_n, E_lstore_n, E_astore_n, E_astoreN_n, E_iload, E_lload, E_aload, E_istore, E_lstore, E_astore, E_astoreN, E_ldi, E_ldl, E_lda, E_ldN, E_iinc, E_iadd, E_isub, E_imul, E_iand, E_ior, E_ixor, E_ishl, E_ishr, E_idiv, E_irem, E_ineg, E_ladd, E_lsub, E_land, E_lor, E_lcmp, E_lshl, E_lshr, E_lushr, E_i2l, E_l2i, E_i2c, E_dupI, E_popI, E_dup_x1II, E_dup2II, E_dup_x1IR, E_dup2IR, E_dup_x1IN, E_dup2IN, E_dupR, E_popR, E_dup_x1RI, E_dup2RI, E_dup_x1RR, E_dup2RR, E_dup_x1RN, E_dup2RN, E_dupN, E_popN, E_dup_x1NI, E_dup2NI, E_dup_x1NR, E_dup2NR, E_dup_x1NN, E_dup2NN, E_goto, E_if_eq, E_if_ne, E_if_lt, E_if_ge, E_if_gt, E_if_le, E_ic_eq, E_ic_ne, E_ic_lt, E_ic_ge, E_ic_gt, E_ic_le, E_ifnull, E_ifnullN, E_ifnonnull, E_ifnonnullN, E_get, E_gf, E_xv, E_n0, E_ns, E_putI, E_putR, E_putN, E_pf, E_st0, E_sts, E_iaload, E_caload, E_laload, E_aaload, E_alen, E_iast, E_cast, E_last, E_xI, E_xJ, E_xQ, E_xN, E_lk, E_lkn, E_s1, E_s1h, E_s1I, E_s1R, E_s1N, E_s1L, E_s2, E_s2h, E_s2L, E_s2I, E_s2R, E_s2N, E_a1, E_a0, E_aI, E_aR, E_aN, E_aL, Option.isSome_some, eq_self, true_and, and_true, true_or, or_true, ne_eq, not_false_eq_true, not_true_eq_false, reduceIte, reduceCtorEq, Nat.reduceAdd, Nat.reduceBEq, Nat.reduceEqDiff, Option.toList_some, Option.toList_none, List.cons_append, List.nil_append, hne, e1, e2]
        exact k134 _ (by simp)
      | false =>
        have es : sum = pu_val (iD x.1) - pu_val (wt s ws 2) := hsum.symm
        refine sp_run hz _ _ e_Mod_doCount_103 _ _ _ ?_
        simp only [k_Mod_doCount_103, E_nil, E_iconst, E_bipush, E_sipush, E_ldc, E_ldc2, E_lconst, E_null, E_iload_n, E_lload_n, E_aload_n, E_istore_n, E_lstore_n, E_astore_n, E_astoreN_n, E_iload, E_lload, E_aload, E_istore, E_lstore, E_astore, E_astoreN, E_ldi, E_ldl, E_lda, E_ldN, E_iinc, E_iadd, E_isub, E_imul, E_iand, E_ior, E_ixor, E_ishl, E_ishr, E_idiv, E_irem, E_ineg, E_ladd, E_lsub, E_land, E_lor, E_lcmp, E_lshl, E_lshr, E_lushr, E_i2l, E_l2i, E_i2c, E_dupI, E_popI, E_dup_x1II, E_dup2II, E_dup_x1IR, E_dup2IR, E_dup_x1IN, E_dup2IN, E_dupR, E_popR, E_dup_x1RI, E_dup2RI, E_dup_x1RR, E_dup2RR, E_dup_x1RN, E_dup2RN, E_dupN, E_popN, E_dup_x1NI, E_dup2NI, E_dup_x1NR, E_dup2NR, E_dup_x1NN, E_dup2NN, E_goto, E_if_eq, E_if_ne, E_if_lt, E_if_ge, E_if_gt, E_if_le, E_ic_eq, E_ic_ne, E_ic_lt, E_ic_ge, E_ic_gt, E_ic_le, E_ifnull, E_ifnullN, E_ifnonnull, E_ifnonnullN, E_get, E_gf, E_xv, E_n0, E_ns, E_putI, E_putR, E_putN, E_pf, E_st0, E_sts, E_iaload, E_caload, E_laload, E_aaload, E_alen, E_iast, E_cast, E_last, E_xI, E_xJ, E_xQ, E_xN, E_lk, E_lkn, E_s1, E_s1h, E_s1I, E_s1R, E_s1N, E_s1L, E_s2, E_s2h, E_s2L, E_s2I, E_s2R, E_s2N, E_a1, E_a0, E_aI, E_aR, E_aN, E_aL, Option.isSome_some, eq_self, true_and, and_true, true_or, or_true, ne_eq, not_false_eq_true, not_true_eq_false, reduceIte, reduceCtorEq, Nat.reduceAdd, Nat.reduceBEq, Nat.reduceEqDiff, Option.toList_some, Option.toList_none, List.cons_append, List.nil_append]
        refine ⟨fun _ => ?_, fun h => absurd rfl h⟩
        refine sp_run hz _ _ e_Mod_doCount_120 _ _ _ ?_
        simp only [k_Mod_doCount_120, E_nil, E_iconst, E_bipush, E_sipush, E_ldc, E_ldc2, E_lconst, E_null, E_iload_n, E_lload_n, E_aload_n, E_istore_n, E_lstore_n, E_astore_n, E_astoreN_n, E_iload, E_lload, E_aload, E_istore, E_lstore, E_astore, E_astoreN, E_ldi, E_ldl, E_lda, E_ldN, E_iinc, E_iadd, E_isub, E_imul, E_iand, E_ior, E_ixor, E_ishl, E_ishr, E_idiv, E_irem, E_ineg, E_ladd, E_lsub, E_land, E_lor, E_lcmp, E_lshl, E_lshr, E_lushr, E_i2l, E_l2i, E_i2c, E_dupI, E_popI, E_dup_x1II, E_dup2II, E_dup_x1IR, E_dup2IR, E_dup_x1IN, E_dup2IN, E_dupR, E_popR, E_dup_x1RI, E_dup2RI, E_dup_x1RR, E_dup2RR, E_dup_x1RN, E_dup2RN, E_dupN, E_popN, E_dup_x1NI, E_dup2NI, E_dup_x1NR, E_dup2NR, E_dup_x1NN, E_dup2NN, E_goto, E_if_eq, E_if_ne, E_if_lt, E_if_ge, E_if_gt, E_if_le, E_ic_eq, E_ic_ne, E_ic_lt, E_ic_ge, E_ic_gt, E_ic_le, E_ifnull, E_ifnullN, E_ifnonnull, E_ifnonnullN, E_get, E_gf, E_xv, E_n0, E_ns, E_putI, E_putR, E_putN, E_pf, E_st0, E_sts, E_iaload, E_caload, E_laload, E_aaload, E_alen, E_iast, E_cast, E_last, E_xI, E_xJ, E_xQ, E_xN, E_lk, E_lkn, E_s1, E_s1h, E_s1I, E_s1R, E_s1N, E_s1L, E_s2, E_s2h, E_s2L, E_s2I, E_s2R, E_s2N, E_a1, E_a0, E_aI, E_aR, E_aN, E_aL, Option.isSome_some, eq_self, true_and, and_true, true_or, or_true, ne_eq, not_false_eq_true, not_true_eq_false, reduceIte, reduceCtorEq, Nat.reduceAdd, Nat.reduceBEq, Nat.reduceEqDiff, Option.toList_some, Option.toList_none, List.cons_append, List.nil_append]
        refine ⟨fun h => ?_, fun h => ?_⟩
        · have hge := (nI_leI (by omega) (by omega)).mp h
          refine sp_run hz _ _ e_Mod_doCount_130 _ _ _ ?_
          simp only [k_Mod_doCount_130, E_nil, E_iconst, E_bipush, E_sipush, E_ldc, E_ldc2, E_lconst, E_null, E_iload_n, E_lload_n, E_aload_n, E_istore_n, E_lstore_n, E_astore_n, E_astoreN_n, E_iload, E_lload, E_aload, E_istore, E_lstore, E_astore, E_astoreN, E_ldi, E_ldl, E_lda, E_ldN, E_iinc, E_iadd, E_isub, E_imul, E_iand, E_ior, E_ixor, E_ishl, E_ishr, E_idiv, E_irem, E_ineg, E_ladd, E_lsub, E_land, E_lor, E_lcmp, E_lshl, E_lshr, E_lushr, E_i2l, E_l2i, E_i2c, E_dupI, E_popI, E_dup_x1II, E_dup2II, E_dup_x1IR, E_dup2IR, E_dup_x1IN, E_dup2IN, E_dupR, E_popR, E_dup_x1RI, E_dup2RI, E_dup_x1RR, E_dup2RR, E_dup_x1RN, E_dup2RN, E_dupN, E_popN, E_dup_x1NI, E_dup2NI, E_dup_x1NR, E_dup2NR, E_dup_x1NN, E_dup2NN, E_goto, E_if_eq, E_if_ne, E_if_lt, E_if_ge, E_if_gt, E_if_le, E_ic_eq, E_ic_ne, E_ic_lt, E_ic_ge, E_ic_gt, E_ic_le, E_ifnull, E_ifnullN, E_ifnonnull, E_ifnonnullN, E_get, E_gf, E_xv, E_n0, E_ns, E_putI, E_putR, E_putN, E_pf, E_st0, E_sts, E_iaload, E_caload, E_laload, E_aaload, E_alen, E_iast, E_cast, E_last, E_xI, E_xJ, E_xQ, E_xN, E_lk, E_lkn, E_s1, E_s1h, E_s1I, E_s1R, E_s1N, E_s1L, E_s2, E_s2h, E_s2L, E_s2I, E_s2R, E_s2N, E_a1, E_a0, E_aI, E_aR, E_aN, E_aL, Option.isSome_some, eq_self, true_and, and_true, true_or, or_true, ne_eq, not_false_eq_true, not_true_eq_false, reduceIte, reduceCtorEq, Nat.reduceAdd, Nat.reduceBEq, Nat.reduceEqDiff, Option.toList_some, Option.toList_none, List.cons_append, List.nil_append, pk_sub hge]
          rw [← es]
          exact k134 _ (by simp)
        · have hlt2 : ¬ pu_val (wt s ws 2) ≤ pu_val (iD x.1) := fun q => h ((nI_leI (by omega) (by omega)).mpr q)
          have e0 : sum = 0 := by omega
          have k := k134
          rw [e0] at k
          exact k _ (by simp)
    have loop : (1 ≤ (iD x.1).length ∧ (iD x.1).length ≤ 9) → ∀ n k (L0 : sp_L), (∀ q ∈ [(0, .ref (B 0)), (1, .int (nI i)), (2, .int (b2i b)), (3, .int (nI (pu_val (pu_seg (iD x.1) 0 k)))), (4, .int (nI k))], q ∈ L0) → (iD x.1).length - k = n → k ≤ (iD x.1).length → (∀ j, j < k → pu_dig ((iD x.1).getD (0 + j) 0) = true) → sp_W z G M (sp_Q z G M Post 0 0) 7 0 0 30 L0 [] M := by
      intro hg n
      induction n with
      | zero =>
        intro k L0 hL0 hn hk hd
        have ek : k = (iD x.1).length := by omega
        rw [ek, hseg] at hL0
        refine sp_Lm _ hL0 ?_
        refine sp_run hz _ _ e_Mod_doCount_30 _ _ _ ?_
        simp only [k_Mod_doCount_30, E_nil, E_iconst, E_bipush, E_sipush, E_ldc, E_ldc2, E_lconst, E_null, E_iload_n, E_lload_n, E_aload_n, E_istore_n, E_lstore_n, E_astore_n, E_astoreN_n, E_iload, E_lload, E_aload, E_istore, E_lstore, E_astore, E_astoreN, E_ldi, E_ldl, E_lda, E_ldN, E_iinc, E_iadd, E_isub, E_imul, E_iand, E_ior, E_ixor, E_ishl, E_ishr, E_idiv, E_irem, E_ineg, E_ladd, E_lsub, E_land, E_lor, E_lcmp, E_lshl, E_lshr, E_lushr, E_i2l, E_l2i, E_i2c, E_dupI, E_popI, E_dup_x1II, E_dup2II, E_dup_x1IR, E_dup2IR, E_dup_x1IN, E_dup2IN, E_dupR, E_popR, E_dup_x1RI, E_dup2RI, E_dup_x1RR, E_dup2RR, E_dup_x1RN, E_dup2RN, E_dupN, E_popN, E_dup_x1NI, E_dup2NI, E_dup_x1NR, E_dup2NR, E_dup_x1NN, E_dup2NN, E_goto, E_if_eq, E_if_ne, E_if_lt, E_if_ge, E_if_gt, E_if_le, E_ic_eq, E_ic_ne, E_ic_lt, E_ic_ge, E_ic_gt, E_ic_le, E_ifnull, E_ifnullN, E_ifnonnull, E_ifnonnullN, E_get, E_gf, E_xv, E_n0, E_ns, E_putI, E_putR, E_putN, E_pf, E_st0, E_sts, E_iaload, E_caload, E_laload, E_aaload, E_alen, E_iast, E_cast, E_last, E_xI, E_xJ, E_xQ, E_xN, E_lk, E_lkn, E_s1, E_s1h, E_s1I, E_s1R, E_s1N, E_s1L, E_s2, E_s2h, E_s2L, E_s2I, E_s2R, E_s2N, E_a1, E_a0, E_aI, E_aR, E_aN, E_aL, Option.isSome_some, eq_self, true_and, and_true, true_or, or_true, ne_eq, not_false_eq_true, not_true_eq_false, reduceIte, reduceCtorEq, Nat.reduceAdd, Nat.reduceBEq, Nat.reduceEqDiff, Option.toList_some, Option.toList_none, List.cons_append, List.nil_append, h0.o, h8, rn_8, hin, ci, tl]
        refine ⟨fun _ => good ?_ _ (by simp), fun h => absurd (Int32.le_refl _) h⟩
        unfold pu_isnum
        rw [decide_eq_true hg.1, decide_eq_true hg.2, (pu_all_seg _ _ _ _).mpr (by rw [← ek]; exact hd)]
        rfl
      | succ n ih =>
        intro k L0 hL0 hn hk hd
        refine sp_Lm _ hL0 ?_
        have hklt : k < (iD x.1).length := by omega
        have hcc := hw.2.2.2.2.1.at hklt
        have e1 : (64 : Int32) * nI i + nI k = nI (64 * i + k) := by
          rw [show (64 : Int32) * nI i = nI (64 * i) from pk_mul 64 i]
          exact (Int32.ofNat_add _ _).symm
        have i1 : vp_in (nI (64 * i + k)) 3072 := nI_in (by omega) (by decide)
        have hv10 := pu_val_lt k (iD x.1) 0 hd
        have hv9 : 10 ^ k ≤ 10 ^ 8 := Nat.pow_le_pow_right (by decide) (by omega)
        refine sp_run hz _ _ e_Mod_doCount_30 _ _ _ ?_
        simp only [k_Mod_doCount_30, E_nil, E_iconst, E_bipush, E_sipush, E_ldc, E_ldc2, E_lconst, E_null, E_iload_n, E_lload_n, E_aload_n, E_istore_n, E_lstore_n, E_astore_n, E_astoreN_n, E_iload, E_lload, E_aload, E_istore, E_lstore, E_astore, E_astoreN, E_ldi, E_ldl, E_lda, E_ldN, E_iinc, E_iadd, E_isub, E_imul, E_iand, E_ior, E_ixor, E_ishl, E_ishr, E_idiv, E_irem, E_ineg, E_ladd, E_lsub, E_land, E_lor, E_lcmp, E_lshl, E_lshr, E_lushr, E_i2l, E_l2i, E_i2c, E_dupI, E_popI, E_dup_x1II, E_dup2II, E_dup_x1IR, E_dup2IR, E_dup_x1IN, E_dup2IN, E_dupR, E_popR, E_dup_x1RI, E_dup2RI, E_dup_x1RR, E_dup2RR, E_dup_x1RN, E_dup2RN, E_dupN, E_popN, E_dup_x1NI, E_dup2NI, E_dup_x1NR, E_dup2NR, E_dup_x1NN, E_dup2NN, E_goto, E_if_eq, E_if_ne, E_if_lt, E_if_ge, E_if_gt, E_if_le, E_ic_eq, E_ic_ne, E_ic_lt, E_ic_ge, E_ic_gt, E_ic_le, E_ifnull, E_ifnullN, E_ifnonnull, E_ifnonnullN, E_get, E_gf, E_xv, E_n0, E_ns, E_putI, E_putR, E_putN, E_pf, E_st0, E_sts, E_iaload, E_caload, E_laload, E_aaload, E_alen, E_iast, E_cast, E_last, E_xI, E_xJ, E_xQ, E_xN, E_lk, E_lkn, E_s1, E_s1h, E_s1I, E_s1R, E_s1N, E_s1L, E_s2, E_s2h, E_s2L, E_s2I, E_s2R, E_s2N, E_a1, E_a0, E_aI, E_aR, E_aN, E_aL, Option.isSome_some, eq_self, true_and, and_true, true_or, or_true, ne_eq, not_false_eq_true, not_true_eq_false, reduceIte, reduceCtorEq, Nat.reduceAdd, Nat.reduceBEq, Nat.reduceEqDiff, Option.toList_some, Option.toList_none, List.cons_append, List.nil_append, h0.o, h8, h9, rn_8, rn_9, hin, ci, tl, e1, i1, nI_clamp (show 64 * i + k < 2 ^ 31 by omega), td k hklt]
        refine ⟨fun h => absurd ((nI_leI (by omega) (by omega)).mp h) (by omega), fun _ => ⟨fun h => absurd h (nI_pos (by omega)), fun _ => ?_⟩⟩
        refine sp_callS hz (c_Mod_isDigit l G) (As := [.int (nI ((iD x.1).getD k 0))]) (rest := []) w_Mod_148 (by decide) rfl (Nat.le_of_ble_eq_true rfl) d_Mod_doCount_61 ⟨_, rfl, by omega, ?_⟩ rfl
        refine sp_run hz _ _ e_Mod_doCount_64 _ _ _ ?_
        simp only [k_Mod_doCount_64, E_nil, E_iconst, E_bipush, E_sipush, E_ldc, E_ldc2, E_lconst, E_null, E_iload_n, E_lload_n, E_aload_n, E_istore_n, E_lstore_n, E_astore_n, E_astoreN_n, E_iload, E_lload, E_aload, E_istore, E_lstore, E_astore, E_astoreN, E_ldi, E_ldl, E_lda, E_ldN, E_iinc, E_iadd, E_isub, E_imul, E_iand, E_ior, E_ixor, E_ishl, E_ishr, E_idiv, E_irem, E_ineg, E_ladd, E_lsub, E_land, E_lor, E_lcmp, E_lshl, E_lshr, E_lushr, E_i2l, E_l2i, E_i2c, E_dupI, E_popI, E_dup_x1II, E_dup2II, E_dup_x1IR, E_dup2IR, E_dup_x1IN, E_dup2IN, E_dupR, E_popR, E_dup_x1RI, E_dup2RI, E_dup_x1RR, E_dup2RR, E_dup_x1RN, E_dup2RN, E_dupN, E_popN, E_dup_x1NI, E_dup2NI, E_dup_x1NR, E_dup2NR, E_dup_x1NN, E_dup2NN, E_goto, E_if_eq, E_if_ne, E_if_lt, E_if_ge, E_if_gt, E_if_le, E_ic_eq, E_ic_ne, E_ic_lt, E_ic_ge, E_ic_gt, E_ic_le, E_ifnull, E_ifnullN, E_ifnonnull, E_ifnonnullN, E_get, E_gf, E_xv, E_n0, E_ns, E_putI, E_putR, E_putN, E_pf, E_st0, E_sts, E_iaload, E_caload, E_laload, E_aaload, E_alen, E_iast, E_cast, E_last, E_xI, E_xJ, E_xQ, E_xN, E_lk, E_lkn, E_s1, E_s1h, E_s1I, E_s1R, E_s1N, E_s1L, E_s2, E_s2h, E_s2L, E_s2I, E_s2R, E_s2N, E_a1, E_a0, E_aI, E_aR, E_aN, E_aL, Option.isSome_some, eq_self, true_and, and_true, true_or, or_true, ne_eq, not_false_eq_true, not_true_eq_false, reduceIte, reduceCtorEq, Nat.reduceAdd, Nat.reduceBEq, Nat.reduceEqDiff, Option.toList_some, Option.toList_none, List.cons_append, List.nil_append]
        cases hdg : pu_dig ((iD x.1).getD k 0) with
        | false =>
          refine ⟨fun _ => ?_, fun h => absurd rfl h⟩
          refine sp_run hz _ _ e_Mod_doCount_80 _ _ _ ?_
          simp only [k_Mod_doCount_80, E_nil, E_iconst, E_bipush, E_sipush, E_ldc, E_ldc2, E_lconst, E_null, E_iload_n, E_lload_n, E_aload_n, E_istore_n, E_lstore_n, E_astore_n, E_astoreN_n, E_iload, E_lload, E_aload, E_istore, E_lstore, E_astore, E_astoreN, E_ldi, E_ldl, E_lda, E_ldN, E_iinc, E_iadd, E_isub, E_imul, E_iand, E_ior, E_ixor, E_ishl, E_ishr, E_idiv, E_irem, E_ineg, E_ladd, E_lsub, E_land, E_lor, E_lcmp, E_lshl, E_lshr, E_lushr, E_i2l, E_l2i, E_i2c, E_dupI, E_popI, E_dup_x1II, E_dup2II, E_dup_x1IR, E_dup2IR, E_dup_x1IN, E_dup2IN, E_dupR, E_popR, E_dup_x1RI, E_dup2RI, E_dup_x1RR, E_dup2RR, E_dup_x1RN, E_dup2RN, E_dupN, E_popN, E_dup_x1NI, E_dup2NI, E_dup_x1NR, E_dup2NR, E_dup_x1NN, E_dup2NN, E_goto, E_if_eq, E_if_ne, E_if_lt, E_if_ge, E_if_gt, E_if_le, E_ic_eq, E_ic_ne, E_ic_lt, E_ic_ge, E_ic_gt, E_ic_le, E_ifnull, E_ifnullN, E_ifnonnull, E_ifnonnullN, E_get, E_gf, E_xv, E_n0, E_ns, E_putI, E_putR, E_putN, E_pf, E_st0, E_sts, E_iaload, E_caload, E_laload, E_aaload, E_alen, E_iast, E_cast, E_last, E_xI, E_xJ, E_xQ, E_xN, E_lk, E_lkn, E_s1, E_s1h, E_s1I, E_s1R, E_s1N, E_s1L, E_s2, E_s2h, E_s2L, E_s2I, E_s2R, E_s2N, E_a1, E_a0, E_aI, E_aR, E_aN, E_aL, Option.isSome_some, eq_self, true_and, and_true, true_or, or_true, ne_eq, not_false_eq_true, not_true_eq_false, reduceIte, reduceCtorEq, Nat.reduceAdd, Nat.reduceBEq, Nat.reduceEqDiff, Option.toList_some, Option.toList_none, List.cons_append, List.nil_append]
          refine sp_run hz _ _ e_Mod_doCount_81 _ _ _ ?_
          simp only [k_Mod_doCount_81, E_nil, E_iconst, E_bipush, E_sipush, E_ldc, E_ldc2, E_lconst, E_null, E_iload_n, E_lload_n, E_aload_n, E_istore_n, E_lstore_n, E_astore_n, E_astoreN_n, E_iload, E_lload, E_aload, E_istore, E_lstore, E_astore, E_astoreN, E_ldi, E_ldl, E_lda, E_ldN, E_iinc, E_iadd, E_isub, E_imul, E_iand, E_ior, E_ixor, E_ishl, E_ishr, E_idiv, E_irem, E_ineg, E_ladd, E_lsub, E_land, E_lor, E_lcmp, E_lshl, E_lshr, E_lushr, E_i2l, E_l2i, E_i2c, E_dupI, E_popI, E_dup_x1II, E_dup2II, E_dup_x1IR, E_dup2IR, E_dup_x1IN, E_dup2IN, E_dupR, E_popR, E_dup_x1RI, E_dup2RI, E_dup_x1RR, E_dup2RR, E_dup_x1RN, E_dup2RN, E_dupN, E_popN, E_dup_x1NI, E_dup2NI, E_dup_x1NR, E_dup2NR, E_dup_x1NN, E_dup2NN, E_goto, E_if_eq, E_if_ne, E_if_lt, E_if_ge, E_if_gt, E_if_le, E_ic_eq, E_ic_ne, E_ic_lt, E_ic_ge, E_ic_gt, E_ic_le, E_ifnull, E_ifnullN, E_ifnonnull, E_ifnonnullN, E_get, E_gf, E_xv, E_n0, E_ns, E_putI, E_putR, E_putN, E_pf, E_st0, E_sts, E_iaload, E_caload, E_laload, E_aaload, E_alen, E_iast, E_cast, E_last, E_xI, E_xJ, E_xQ, E_xN, E_lk, E_lkn, E_s1, E_s1h, E_s1I, E_s1R, E_s1N, E_s1L, E_s2, E_s2h, E_s2L, E_s2I, E_s2R, E_s2N, E_a1, E_a0, E_aI, E_aR, E_aN, E_aL, Option.isSome_some, eq_self, true_and, and_true, true_or, or_true, ne_eq, not_false_eq_true, not_true_eq_false, reduceIte, reduceCtorEq, Nat.reduceAdd, Nat.reduceBEq, Nat.reduceEqDiff, Option.toList_some, Option.toList_none, List.cons_append, List.nil_append]
          have e : pu_isnum (iD x.1) 0 (iD x.1).length = false := by
            cases hq : pu_isnum (iD x.1) 0 (iD x.1).length with
            | false => rfl
            | true =>
              have := (isnum_e hq).2.2 k (by omega)
              rw [Nat.zero_add, hdg] at this
              cases this
          refine sp_run hz _ _ e_Mod_doCount_30 _ _ _ ?_
          simp only [k_Mod_doCount_30, E_nil, E_iconst, E_bipush, E_sipush, E_ldc, E_ldc2, E_lconst, E_null, E_iload_n, E_lload_n, E_aload_n, E_istore_n, E_lstore_n, E_astore_n, E_astoreN_n, E_iload, E_lload, E_aload, E_istore, E_lstore, E_astore, E_astoreN, E_ldi, E_ldl, E_lda, E_ldN, E_iinc, E_iadd, E_isub, E_imul, E_iand, E_ior, E_ixor, E_ishl, E_ishr, E_idiv, E_irem, E_ineg, E_ladd, E_lsub, E_land, E_lor, E_lcmp, E_lshl, E_lshr, E_lushr, E_i2l, E_l2i, E_i2c, E_dupI, E_popI, E_dup_x1II, E_dup2II, E_dup_x1IR, E_dup2IR, E_dup_x1IN, E_dup2IN, E_dupR, E_popR, E_dup_x1RI, E_dup2RI, E_dup_x1RR, E_dup2RR, E_dup_x1RN, E_dup2RN, E_dupN, E_popN, E_dup_x1NI, E_dup2NI, E_dup_x1NR, E_dup2NR, E_dup_x1NN, E_dup2NN, E_goto, E_if_eq, E_if_ne, E_if_lt, E_if_ge, E_if_gt, E_if_le, E_ic_eq, E_ic_ne, E_ic_lt, E_ic_ge, E_ic_gt, E_ic_le, E_ifnull, E_ifnullN, E_ifnonnull, E_ifnonnullN, E_get, E_gf, E_xv, E_n0, E_ns, E_putI, E_putR, E_putN, E_pf, E_st0, E_sts, E_iaload, E_caload, E_laload, E_aaload, E_alen, E_iast, E_cast, E_last, E_xI, E_xJ, E_xQ, E_xN, E_lk, E_lkn, E_s1, E_s1h, E_s1I, E_s1R, E_s1N, E_s1L, E_s2, E_s2h, E_s2L, E_s2I, E_s2R, E_s2N, E_a1, E_a0, E_aI, E_aR, E_aN, E_aL, Option.isSome_some, eq_self, true_and, and_true, true_or, or_true, ne_eq, not_false_eq_true, not_true_eq_false, reduceIte, reduceCtorEq, Nat.reduceAdd, Nat.reduceBEq, Nat.reduceEqDiff, Option.toList_some, Option.toList_none, List.cons_append, List.nil_append, h0.o, h8, rn_8, hin, ci, tl]
          exact ⟨fun _ => bad _ _ (by simp; rfl) (by decide) e, fun _ => ⟨fun _ => bad _ _ (by simp; rfl) (by decide) e, fun h => absurd (by decide) h⟩⟩
        | true =>
          refine ⟨fun h => absurd h (by decide), fun _ => ?_⟩
          have hdb : 48 ≤ (iD x.1).getD k 0 := by
            unfold pu_dig at hdg
            simp only [Bool.and_eq_true, decide_eq_true_eq] at hdg
            exact hdg.1
          have e2 : (10 : Int32) * nI (pu_val (pu_seg (iD x.1) 0 k)) + nI ((iD x.1).getD k 0) - 48 = nI (pu_val (pu_seg (iD x.1) 0 (k + 1))) := by
            rw [show (10 : Int32) * nI (pu_val (pu_seg (iD x.1) 0 k)) = nI (10 * pu_val (pu_seg (iD x.1) 0 k)) from pk_mul 10 _, show ∀ a b, nI a + nI b = nI (a + b) from fun a b => (Int32.ofNat_add a b).symm, show ∀ a, 48 ≤ a → nI a - 48 = nI (a - 48) from fun a h => pk_sub (b := 48) h, pu_seg_s, pu_val_s, Nat.zero_add]
            · congr 1
              omega
            · omega
          refine sp_run hz _ _ e_Mod_doCount_81 _ _ _ ?_
          simp only [k_Mod_doCount_81, E_nil, E_iconst, E_bipush, E_sipush, E_ldc, E_ldc2, E_lconst, E_null, E_iload_n, E_lload_n, E_aload_n, E_istore_n, E_lstore_n, E_astore_n, E_astoreN_n, E_iload, E_lload, E_aload, E_istore, E_lstore, E_astore, E_astoreN, E_ldi, E_ldl, E_lda, E_ldN, E_iinc, E_iadd, E_isub, E_imul, E_iand, E_ior, E_ixor, E_ishl, E_ishr, E_idiv, E_irem, E_ineg, E_ladd, E_lsub, E_land, E_lor, E_lcmp, E_lshl, E_lshr, E_lushr, E_i2l, E_l2i, E_i2c, E_dupI, E_popI, E_dup_x1II, E_dup2II, E_dup_x1IR, E_dup2IR, E_dup_x1IN, E_dup2IN, E_dupR, E_popR, E_dup_x1RI, E_dup2RI, E_dup_x1RR, E_dup2RR, E_dup_x1RN, E_dup2RN, E_dupN, E_popN, E_dup_x1NI, E_dup2NI, E_dup_x1NR, E_dup2NR, E_dup_x1NN, E_dup2NN, E_goto, E_if_eq, E_if_ne, E_if_lt, E_if_ge, E_if_gt, E_if_le, E_ic_eq, E_ic_ne, E_ic_lt, E_ic_ge, E_ic_gt, E_ic_le, E_ifnull, E_ifnullN, E_ifnonnull, E_ifnonnullN, E_get, E_gf, E_xv, E_n0, E_ns, E_putI, E_putR, E_putN, E_pf, E_st0, E_sts, E_iaload, E_caload, E_laload, E_aaload, E_alen, E_iast, E_cast, E_last, E_xI, E_xJ, E_xQ, E_xN, E_lk, E_lkn, E_s1, E_s1h, E_s1I, E_s1R, E_s1N, E_s1L, E_s2, E_s2h, E_s2L, E_s2I, E_s2R, E_s2N, E_a1, E_a0, E_aI, E_aR, E_aN, E_aL, Option.isSome_some, eq_self, true_and, and_true, true_or, or_true, ne_eq, not_false_eq_true, not_true_eq_false, reduceIte, reduceCtorEq, Nat.reduceAdd, Nat.reduceBEq, Nat.reduceEqDiff, Option.toList_some, Option.toList_none, List.cons_append, List.nil_append, e2, nI_1]
          refine ih (k + 1) _ (by simp) (by omega) (by omega) (fun j hj => ?_)
          by_cases q : j = k
          · rw [q, Nat.zero_add]; exact hdg
          · exact hd j (by omega)
    refine sp_run hz _ _ e_Mod_doCount_0 _ _ _ ?_
    simp only [k_Mod_doCount_0, E_nil, E_iconst, E_bipush, E_sipush, E_ldc, E_ldc2, E_lconst, E_null, E_iload_n, E_lload_n, E_aload_n, E_istore_n, E_lstore_n, E_astore_n, E_astoreN_n, E_iload, E_lload, E_aload, E_istore, E_lstore, E_astore, E_astoreN, E_ldi, E_ldl, E_lda, E_ldN, E_iinc, E_iadd, E_isub, E_imul, E_iand, E_ior, E_ixor, E_ishl, E_ishr, E_idiv, E_irem, E_ineg, E_ladd, E_lsub, E_land, E_lor, E_lcmp, E_lshl, E_lshr, E_lushr, E_i2l, E_l2i, E_i2c, E_dupI, E_popI, E_dup_x1II, E_dup2II, E_dup_x1IR, E_dup2IR, E_dup_x1IN, E_dup2IN, E_dupR, E_popR, E_dup_x1RI, E_dup2RI, E_dup_x1RR, E_dup2RR, E_dup_x1RN, E_dup2RN, E_dupN, E_popN, E_dup_x1NI, E_dup2NI, E_dup_x1NR, E_dup2NR, E_dup_x1NN, E_dup2NN, E_goto, E_if_eq, E_if_ne, E_if_lt, E_if_ge, E_if_gt, E_if_le, E_ic_eq, E_ic_ne, E_ic_lt, E_ic_ge, E_ic_gt, E_ic_le, E_ifnull, E_ifnullN, E_ifnonnull, E_ifnonnullN, E_get, E_gf, E_xv, E_n0, E_ns, E_putI, E_putR, E_putN, E_pf, E_st0, E_sts, E_iaload, E_caload, E_laload, E_aaload, E_alen, E_iast, E_cast, E_last, E_xI, E_xJ, E_xQ, E_xN, E_lk, E_lkn, E_s1, E_s1h, E_s1I, E_s1R, E_s1N, E_s1L, E_s2, E_s2h, E_s2L, E_s2I, E_s2R, E_s2N, E_a1, E_a0, E_aI, E_aR, E_aN, E_aL, Option.isSome_some, eq_self, true_and, and_true, true_or, or_true, ne_eq, not_false_eq_true, not_true_eq_false, reduceIte, reduceCtorEq, Nat.reduceAdd, Nat.reduceBEq, Nat.reduceEqDiff, Option.toList_some, Option.toList_none, List.cons_append, List.nil_append, h0.o, h8, rn_8, hin, ci, tl]
    refine ⟨fun h => bad26 _ (by simp) (fun q => absurd ((nI_ltI (b := 1) (by omega) (by decide)).mp h) (by omega)), fun h => ⟨fun h2 => ?_, fun h2 => bad26 _ (by simp) (fun q => h2 ((nI_leI (b := 9) (by omega) (by decide)).mpr q.2))⟩⟩
    have hg : 1 ≤ (iD x.1).length ∧ (iD x.1).length ≤ 9 := ⟨Nat.not_lt.mp fun q => h ((nI_ltI (b := 1) (by omega) (by decide)).mpr q), (nI_leI (b := 9) (by omega) (by decide)).mp h2⟩
    refine sp_run hz _ _ e_Mod_doCount_25 _ _ _ ?_
    simp only [k_Mod_doCount_25, E_nil, E_iconst, E_bipush, E_sipush, E_ldc, E_ldc2, E_lconst, E_null, E_iload_n, E_lload_n, E_aload_n, E_istore_n, E_lstore_n, E_astore_n, E_astoreN_n, E_iload, E_lload, E_aload, E_istore, E_lstore, E_astore, E_astoreN, E_ldi, E_ldl, E_lda, E_ldN, E_iinc, E_iadd, E_isub, E_imul, E_iand, E_ior, E_ixor, E_ishl, E_ishr, E_idiv, E_irem, E_ineg, E_ladd, E_lsub, E_land, E_lor, E_lcmp, E_lshl, E_lshr, E_lushr, E_i2l, E_l2i, E_i2c, E_dupI, E_popI, E_dup_x1II, E_dup2II, E_dup_x1IR, E_dup2IR, E_dup_x1IN, E_dup2IN, E_dupR, E_popR, E_dup_x1RI, E_dup2RI, E_dup_x1RR, E_dup2RR, E_dup_x1RN, E_dup2RN, E_dupN, E_popN, E_dup_x1NI, E_dup2NI, E_dup_x1NR, E_dup2NR, E_dup_x1NN, E_dup2NN, E_goto, E_if_eq, E_if_ne, E_if_lt, E_if_ge, E_if_gt, E_if_le, E_ic_eq, E_ic_ne, E_ic_lt, E_ic_ge, E_ic_gt, E_ic_le, E_ifnull, E_ifnullN, E_ifnonnull, E_ifnonnullN, E_get, E_gf, E_xv, E_n0, E_ns, E_putI, E_putR, E_putN, E_pf, E_st0, E_sts, E_iaload, E_caload, E_laload, E_aaload, E_alen, E_iast, E_cast, E_last, E_xI, E_xJ, E_xQ, E_xN, E_lk, E_lkn, E_s1, E_s1h, E_s1I, E_s1R, E_s1N, E_s1L, E_s2, E_s2h, E_s2L, E_s2I, E_s2R, E_s2N, E_a1, E_a0, E_aI, E_aR, E_aN, E_aL, Option.isSome_some, eq_self, true_and, and_true, true_or, or_true, ne_eq, not_false_eq_true, not_true_eq_false, reduceIte, reduceCtorEq, Nat.reduceAdd, Nat.reduceBEq, Nat.reduceEqDiff, Option.toList_some, Option.toList_none, List.cons_append, List.nil_append]
    refine sp_run hz _ _ e_Mod_doCount_26 _ _ _ ?_
    simp only [k_Mod_doCount_26, E_nil, E_iconst, E_bipush, E_sipush, E_ldc, E_ldc2, E_lconst, E_null, E_iload_n, E_lload_n, E_aload_n, E_istore_n, E_lstore_n, E_astore_n, E_astoreN_n, E_iload, E_lload, E_aload, E_istore, E_lstore, E_astore, E_astoreN, E_ldi, E_ldl, E_lda, E_ldN, E_iinc, E_iadd, E_isub, E_imul, E_iand, E_ior, E_ixor, E_ishl, E_ishr, E_idiv, E_irem, E_ineg, E_ladd, E_lsub, E_land, E_lor, E_lcmp, E_lshl, E_lshr, E_lushr, E_i2l, E_l2i, E_i2c, E_dupI, E_popI, E_dup_x1II, E_dup2II, E_dup_x1IR, E_dup2IR, E_dup_x1IN, E_dup2IN, E_dupR, E_popR, E_dup_x1RI, E_dup2RI, E_dup_x1RR, E_dup2RR, E_dup_x1RN, E_dup2RN, E_dupN, E_popN, E_dup_x1NI, E_dup2NI, E_dup_x1NR, E_dup2NR, E_dup_x1NN, E_dup2NN, E_goto, E_if_eq, E_if_ne, E_if_lt, E_if_ge, E_if_gt, E_if_le, E_ic_eq, E_ic_ne, E_ic_lt, E_ic_ge, E_ic_gt, E_ic_le, E_ifnull, E_ifnullN, E_ifnonnull, E_ifnonnullN, E_get, E_gf, E_xv, E_n0, E_ns, E_putI, E_putR, E_putN, E_pf, E_st0, E_sts, E_iaload, E_caload, E_laload, E_aaload, E_alen, E_iast, E_cast, E_last, E_xI, E_xJ, E_xQ, E_xN, E_lk, E_lkn, E_s1, E_s1h, E_s1I, E_s1R, E_s1N, E_s1L, E_s2, E_s2h, E_s2L, E_s2I, E_s2R, E_s2N, E_a1, E_a0, E_aI, E_aR, E_aN, E_aL, Option.isSome_some, eq_self, true_and, and_true, true_or, or_true, ne_eq, not_false_eq_true, not_true_eq_false, reduceIte, reduceCtorEq, Nat.reduceAdd, Nat.reduceBEq, Nat.reduceEqDiff, Option.toList_some, Option.toList_none, List.cons_append, List.nil_append]
    exact loop hg _ 0 _ (by simp; exact ⟨rfl, rfl⟩) rfl (Nat.zero_le _) (fun j hj => absurd hj (by omega))
