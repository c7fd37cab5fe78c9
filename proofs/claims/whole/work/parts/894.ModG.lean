/-! The model sends. -/
def vOK (V : Nat → Nat) (S : AS) : Prop := V 14 = (sN S).2.1 ∧ V 15 = (sN S).2.2.1 ∧ V 17 = (sN S).2.2.2.1 ∧ V 18 = (sN S).2.2.2.2 ∧ V 19 = sH S ∧ V 20 = sM S
def dtO (c : Nat) (s : List Nat) (ws : List (Nat × Nat)) (ce : Nat) : Bool := if c ≤ 6 then decide (ce < s.length ∧ s.length - ce - 1 = pu_val (wt s ws 4)) else decide (ce = s.length)
def snM (S : AS) : AS :=
  if cmo (wt (sL S) (wsc (sL S) (pu_brk (sL S))) 0) = 0 then ([], sv 0, S.2.2)
  else if fmd (cmo (wt (sL S) (wsc (sL S) (pu_brk (sL S))) 0)) (sL S) (wsc (sL S) (pu_brk (sL S))) = false then ([], sv 2, S.2.2)
  else if dtO (cmo (wt (sL S) (wsc (sL S) (pu_brk (sL S))) 0)) (sL S) (wsc (sL S) (pu_brk (sL S))) (pu_brk (sL S)) = false then ([], sv 4, S.2.2)
  else ([], (if qt (cmo (wt (sL S) (wsc (sL S) (pu_brk (sL S))) 0) - 1) (sL S) (wsc (sL S) (pu_brk (sL S))) = true then [] else (oby (cmo (wt (sL S) (wsc (sL S) (pu_brk (sL S))) 0) - 1) (sL S) (wsc (sL S) (pu_brk (sL S))) (pu_brk (sL S)) (sI S) (sP S) (sN S) (sH S) (sM S)).2.2.2.2.2), (oby (cmo (wt (sL S) (wsc (sL S) (pu_brk (sL S))) 0) - 1) (sL S) (wsc (sL S) (pu_brk (sL S))) (pu_brk (sL S)) (sI S) (sP S) (sN S) (sH S) (sM S)).2.1, (oby (cmo (wt (sL S) (wsc (sL S) (pu_brk (sL S))) 0) - 1) (sL S) (wsc (sL S) (pu_brk (sL S))) (pu_brk (sL S)) (sI S) (sP S) (sN S) (sH S) (sM S)).1, (oby (cmo (wt (sL S) (wsc (sL S) (pu_brk (sL S))) 0) - 1) (sL S) (wsc (sL S) (pu_brk (sL S))) (pu_brk (sL S)) (sI S) (sP S) (sN S) (sH S) (sM S)).2.2.1, (oby (cmo (wt (sL S) (wsc (sL S) (pu_brk (sL S))) 0) - 1) (sL S) (wsc (sL S) (pu_brk (sL S))) (pu_brk (sL S)) (sI S) (sP S) (sN S) (sH S) (sM S)).2.2.2.1, (oby (cmo (wt (sL S) (wsc (sL S) (pu_brk (sL S))) 0) - 1) (sL S) (wsc (sL S) (pu_brk (sL S))) (pu_brk (sL S)) (sI S) (sP S) (sN S) (sH S) (sM S)).2.2.2.2.1)
theorem cmo_le (w : List Nat) : cmo w ≤ 13 := by
  have key : ∀ (p : Prop) (_ : Decidable p) (a b : Nat), a ≤ 13 → b ≤ 13 → (if p then a else b) ≤ 13 := fun p _ a b ha hb => by split <;> assumption
  unfold cmo
  refine key _ _ _ _ (by decide) ?_
  refine key _ _ _ _ (by decide) ?_
  refine key _ _ _ _ (by decide) ?_
  refine key _ _ _ _ (by decide) ?_
  refine key _ _ _ _ (by decide) ?_
  refine key _ _ _ _ (by decide) ?_
  refine key _ _ _ _ (by decide) ?_
  refine key _ _ _ _ (by decide) ?_
  refine key _ _ _ _ (by decide) ?_
  refine key _ _ _ _ (by decide) ?_
  refine key _ _ _ _ (by decide) ?_
  refine key _ _ _ _ (by decide) ?_
  refine key _ _ _ _ (by decide) ?_
  decide
def T_Mod_send (G : sp_G) : sp_T := fun av M Post => ∃ B S ws fr V, av = [.ref (B 0)] ∧ rA G M B (sL S) (sA S) (sI S) (sP S) ws fr V ∧ vOK V S ∧ (∀ x ∈ sI S, (sN S).2.1 < iG x) ∧ (sN S).2.1 < 2 ^ 30 ∧ (sN S).1 + sP S 0 + sP S 1 + sP S 2 + sP S 3 = 6 ∧ (∀ c, c < 4 → (fi c (sI S)).length ≤ zp c * sP S c) ∧ (sN S).2.2.1 + 1 < 1000000000 ∧ V 16 + 4 < 2 ^ 31 ∧ ∀ M' ws' fr' V', rA G M' B [] (sA (snM S)) (sI (snM S)) (sP (snM S)) ws' fr' V' → vOK V' (snM S) → V' 0 = 0 → V' 16 ≤ V 16 + 3 → rfr B M M' → Post (some (.int (nI (sA (snM S)).length))) M'
theorem rS.ln0 {G : sp_G} {M : sp_M} {B : Nat → Nat} {s a fr : List Nat} {R : List (It × Nat)} {pg V : Nat → Nat} {ws : List (Nat × Nat)} (h : rS G M B s a R pg ws fr V) : rS G (sp_u M (B 0) (.inr (8, rL B (up V 1 0)))) B [] a R pg ws fr (up V 1 0) := by
  obtain ⟨F, K, h0, ⟨l1, l3, l5, l21, l25⟩, ⟨t2, t4, t26, tw, ti, tp⟩, ⟨b1, b2, b3, b4, b5⟩, hch, hr⟩ := h
  exact ⟨F, K, h0.fld _, ⟨rfl, l3, l5, l21, l25⟩, ⟨(fun i hi => absurd hi (Nat.not_lt_zero _)), t4, t26, tw, ti, tp⟩, ⟨Nat.zero_le _, b2, b3, b4, b5⟩, (fun c hc => by cases hc), hr⟩
set_option maxHeartbeats 4000000 in
set_option maxRecDepth 100000 in
theorem c_Mod_send (l : Launch) (G : sp_G) : sp_Met l G y_Mod_send b_Mod_send 3 (some .int) { frames := 8, locals := 200 } (T_Mod_send G) := by
  refine sp_entry (by decide) (fun av M Post h => ?_) (fun z M av Post hz _ hT => ?_)
  · obtain ⟨B, S, ws, fr, V, rfl, -⟩ := h
    exact Nat.le_of_ble_eq_true rfl
  · obtain ⟨B, S, ws, fr, V, rfl, ⟨R, hS, hsr, hkd⟩, ⟨v14, v15, v17, v18, v19, v20⟩, hti, hti30, hfp, hle, hv15, hv16, hp⟩ := hT
    obtain ⟨s, a, L, pg, nn, hh, mm⟩ := S
    dsimp only [sL, sA, sI, sP, sN, sH, sM] at hS hsr hkd v14 v15 v17 v18 v19 v20 hti hti30 hfp hle hv15 hp
    have b1 : s.length ≤ 140 := hS.bl.2.1
    have hbr := pu_brk_le s
    generalize hce : pu_brk s = ce at hbr
    generalize hws : wsc s ce = wz
    have hwo : wOK s wz := fun p hp => by
      rw [← hws] at hp
      have := wsc_bd s ce p hp
      omega
    have hcm := cmo_le (wt s wz 0)
    generalize hc : cmo (wt s wz 0) = c at hcm
    have eqc : ∀ k : Nat, k < 100 → (nI c = nI k ↔ c = k) := fun k hk => nI_eq (by omega) (by omega)
    have hS00 := (hS.v (up V 0 0) rfl rfl rfl rfl rfl).ans0
    -- the end
    have fin : ∀ (a1 : List Nat) R1 (L1 : List It) (pg1 : Nat → Nat) fr1 (V1 : Nat → Nat) nn1 h1 m1 M1 (L0 : sp_L), (∀ q ∈ [(0, .ref (B 0))], q ∈ L0) → rS G M1 B s a1 R1 pg1 wz fr1 V1 → sR R1 L1 (V1 16) → kd L1 → snM (s, a, L, pg, nn, hh, mm) = ([], a1, L1, pg1, nn1, h1, m1) → vOK V1 ([], a1, L1, pg1, nn1, h1, m1) → V1 0 = 0 → V1 16 ≤ V 16 + 3 → rfr B M M1 → sp_W z G M (sp_Q z G M Post 0 0) 3 0 0 111 L0 [] M1 := by
      intro a1 R1 L1 pg1 fr1 V1 nn1 h1 m1 M1 L0 hL0 hS1 hsr1 hkd1 es hv e0 e16 hf
      refine sp_Lm _ hL0 ?_
      have v3 : up V1 1 0 3 = a1.length := hS1.bl.1.2.1
      rw [es] at hp
      refine sp_run hz _ _ e_Mod_send_111 _ _ _ ?_
      simp only [k_Mod_send_111, E_nil, E_iconst, E_bipush, E_sipush, E_ldc, E_ldc2, E_lconst, E_null, E_iload_n, E_lload_n, E_aload_n, E_istore_n, E_lstore_n, E_astore_n, E_astoreN_n, E_iload, E_lload, E_aload, E_istore, E_lstore, E_astore, E_astoreN, E_ldi, E_ldl, E_lda, E_ldN, E_iinc, E_iadd, E_isub, E_imul, E_iand, E_ior, E_ixor, E_ishl, E_ishr, E_idiv, E_irem, E_ineg, E_ladd, E_lsub, E_land, E_lor, E_lcmp, E_lshl, E_lshr, E_lushr, E_i2l, E_l2i, E_i2c, E_dupI, E_popI, E_dup_x1II, E_dup2II, E_dup_x1IR, E_dup2IR, E_dup_x1IN, E_dup2IN, E_dupR, E_popR, E_dup_x1RI, E_dup2RI, E_dup_x1RR, E_dup2RR, E_dup_x1RN, E_dup2RN, E_dupN, E_popN, E_dup_x1NI, E_dup2NI, E_dup_x1NR, E_dup2NR, E_dup_x1NN, E_dup2NN, E_goto, E_if_eq, E_if_ne, E_if_lt, E_if_ge, E_if_gt, E_if_le, E_ic_eq, E_ic_ne, E_ic_lt, E_ic_ge, E_ic_gt, E_ic_le, E_ifnull, E_ifnullN, E_ifnonnull, E_ifnonnullN, E_get, E_gf, E_xv, E_n0, E_ns, E_putI, E_putR, E_putN, E_pf, E_st0, E_sts, E_iaload, E_caload, E_laload, E_aaload, E_alen, E_iast, E_cast, E_last, E_xI, E_xJ, E_xQ, E_xN, E_lk, E_lkn, E_s1, E_s1h, E_s1I, E_s1R, E_s1N, E_s1L, E_s2, E_s2h, E_s2L, E_s2I, E_s2R, E_s2N, E_a1, E_a0, E_aI, E_aR, E_aN, E_aL, Option.isSome_some, eq_self, true_and, and_true, true_or, or_true, ne_eq, not_false_eq_true, not_true_eq_false, reduceIte, reduceCtorEq, Nat.reduceAdd, Nat.reduceBEq, Nat.reduceEqDiff, Option.toList_some, Option.toList_none, List.cons_append, List.nil_append, hS1.o, sp_u_s, rn_1, rn_3, show ((rL B V1).set 1 (.int 0)) = rL B (up V1 1 0) from rfl, v3]
      exact sp_iret hz d_Mod_send_120 (Nat.le_refl _) (Nat.le_refl _) (hp _ wz fr1 _ ⟨R1, hS1.ln0, hsr1, hkd1⟩ hv e0 e16 (hf.u (j := 0) rfl))
    have esn : ∀ x, (if c = 0 then (([], sv 0, L, pg, nn, hh, mm) : AS) else if fmd c s wz = false then ([], sv 2, L, pg, nn, hh, mm) else if dtO c s wz ce = false then ([], sv 4, L, pg, nn, hh, mm) else ([], (if qt (c - 1) s wz = true then [] else (oby (c - 1) s wz ce L pg nn hh mm).2.2.2.2.2), (oby (c - 1) s wz ce L pg nn hh mm).2.1, (oby (c - 1) s wz ce L pg nn hh mm).1, (oby (c - 1) s wz ce L pg nn hh mm).2.2.1, (oby (c - 1) s wz ce L pg nn hh mm).2.2.2.1, (oby (c - 1) s wz ce L pg nn hh mm).2.2.2.2.1)) = x → snM (s, a, L, pg, nn, hh, mm) = x := by
      intro x hx
      unfold snM
      dsimp only [sL, sA, sI, sP, sN, sH, sM]
      rw [hce, hws, hc]
      exact hx
    refine sp_run hz _ _ e_Mod_send_0 _ _ _ ?_
    simp only [k_Mod_send_0, E_nil, E_iconst, E_bipush, E_sipush, E_ldc, E_ldc2, E_lconst, E_null, E_iload_n, E_lload_n, E_aload_n, E_istore_n, E_lstore_n, E_astore_n, E_astoreN_n, E_iload, E_lload, E_aload, E_istore, E_lstore, E_astore, E_astoreN, E_ldi, E_ldl, E_lda, E_ldN, E_iinc, E_iadd, E_isub, E_imul, E_iand, E_ior, E_ixor, E_ishl, E_ishr, E_idiv, E_irem, E_ineg, E_ladd, E_lsub, E_land, E_lor, E_lcmp, E_lshl, E_lshr, E_lushr, E_i2l, E_l2i, E_i2c, E_dupI, E_popI, E_dup_x1II, E_dup2II, E_dup_x1IR, E_dup2IR, E_dup_x1IN, E_dup2IN, E_dupR, E_popR, E_dup_x1RI, E_dup2RI, E_dup_x1RR, E_dup2RR, E_dup_x1RN, E_dup2RN, E_dupN, E_popN, E_dup_x1NI, E_dup2NI, E_dup_x1NR, E_dup2NR, E_dup_x1NN, E_dup2NN, E_goto, E_if_eq, E_if_ne, E_if_lt, E_if_ge, E_if_gt, E_if_le, E_ic_eq, E_ic_ne, E_ic_lt, E_ic_ge, E_ic_gt, E_ic_le, E_ifnull, E_ifnullN, E_ifnonnull, E_ifnonnullN, E_get, E_gf, E_xv, E_n0, E_ns, E_putI, E_putR, E_putN, E_pf, E_st0, E_sts, E_iaload, E_caload, E_laload, E_aaload, E_alen, E_iast, E_cast, E_last, E_xI, E_xJ, E_xQ, E_xN, E_lk, E_lkn, E_s1, E_s1h, E_s1I, E_s1R, E_s1N, E_s1L, E_s2, E_s2h, E_s2L, E_s2I, E_s2R, E_s2N, E_a1, E_a0, E_aI, E_aR, E_aN, E_aL, Option.isSome_some, eq_self, true_and, and_true, true_or, or_true, ne_eq, not_false_eq_true, not_true_eq_false, reduceIte, reduceCtorEq, Nat.reduceAdd, Nat.reduceBEq, Nat.reduceEqDiff, Option.toList_some, Option.toList_none, List.cons_append, List.nil_append, hS.o, sp_u_s, rn_0, rn_3, show ((rL B V).set 0 (.int 0)) = rL B (up V 0 0) from rfl, show ((rL B (up V 0 0)).set 3 (.int 0)) = rL B (up (up V 0 0) 3 0) from rfl]
    refine sp_callV hz (c_Mod_findWords l G) (ci := 8) (As := []) (rest := []) rfl w_Mod_326 (by decide) hS00.o rfl (Nat.le_of_ble_eq_true rfl) d_Mod_send_11 ⟨B, s, [], R, pg, ws, fr, _, rfl, hS00, fun M1 hS1 hf1 => ?_⟩ rfl
    rw [hce, hws] at hS1
    have f1 : rfr B M M1 := (((rfr.refl B M).u (j := 0) rfl).u (j := 0) rfl).trans hf1
    generalize hV1 : up (up (up (up V 0 0) 3 0) 21 wz.length) 24 ce = V1 at hS1
    have w0 : V1 0 = 0 := by rw [← hV1]; rfl
    have w14 : V1 14 = nn.2.1 := by rw [← hV1]; exact v14
    have w15 : V1 15 = nn.2.2.1 := by rw [← hV1]; exact v15
    have w16 : V1 16 = V 16 := by rw [← hV1]; rfl
    have w17 : V1 17 = nn.2.2.2.1 := by rw [← hV1]; exact v17
    have w18 : V1 18 = nn.2.2.2.2 := by rw [← hV1]; exact v18
    have w19 : V1 19 = hh := by rw [← hV1]; exact v19
    have w20 : V1 20 = mm := by rw [← hV1]; exact v20
    have w24 : V1 24 = ce := by rw [← hV1]; exact up_s _ _ _
    have w1 : V1 1 = s.length := hS1.bl.1.1
    have hsr1 : sR R L (V1 16) := by rw [w16]; exact hsr
    -- an answer at once
    have ans : ∀ (t : List Nat) M2 (V2 : Nat → Nat) (L0 : sp_L), (∀ q ∈ [(0, .ref (B 0))], q ∈ L0) → V2 = up V1 3 t.length → rS G M2 B s t R pg wz fr V2 → rfr B M1 M2 → snM (s, a, L, pg, nn, hh, mm) = ([], t, L, pg, nn, hh, mm) → sp_W z G M (sp_Q z G M Post 0 0) 3 0 0 111 L0 [] M2 := by
      intro t M2 V2 L0 hL0 eV hS2 hf2 es
      subst eV
      exact fin t R L pg fr _ nn hh mm M2 L0 hL0 hS2 hsr1 hkd es ⟨w14, w15, w17, w18, w19, w20⟩ w0 (by show V1 16 ≤ _; omega) (f1.trans hf2)
    refine sp_run hz _ _ e_Mod_send_14 _ _ _ ?_
    simp only [k_Mod_send_14, E_nil, E_iconst, E_bipush, E_sipush, E_ldc, E_ldc2, E_lconst, E_null, E_iload_n, E_lload_n, E_aload_n, E_istore_n, E_lstore_n, E_astore_n, E_astoreN_n, E_iload, E_lload, E_aload, E_istore, E_lstore, E_astore, E_astoreN, E_ldi, E_ldl, E_lda, E_ldN, E_iinc, E_iadd, E_isub, E_imul, E_iand, E_ior, E_ixor, E_ishl, E_ishr, E_idiv, E_irem, E_ineg, E_ladd, E_lsub, E_land, E_lor, E_lcmp, E_lshl, E_lshr, E_lushr, E_i2l, E_l2i, E_i2c, E_dupI, E_popI, E_dup_x1II, E_dup2II, E_dup_x1IR, E_dup2IR, E_dup_x1IN, E_dup2IN, E_dupR, E_popR, E_dup_x1RI, E_dup2RI, E_dup_x1RR, E_dup2RR, E_dup_x1RN, E_dup2RN, E_dupN, E_popN, E_dup_x1NI, E_dup2NI, E_dup_x1NR, E_dup2NR, E_dup_x1NN, E_dup2NN, E_goto, E_if_eq, E_if_ne, E_if_lt, E_if_ge, E_if_gt, E_if_le, E_ic_eq, E_ic_ne, E_ic_lt, E_ic_ge, E_ic_gt, E_ic_le, E_ifnull, E_ifnullN, E_ifnonnull, E_ifnonnullN, E_get, E_gf, E_xv, E_n0, E_ns, E_putI, E_putR, E_putN, E_pf, E_st0, E_sts, E_iaload, E_caload, E_laload, E_aaload, E_alen, E_iast, E_cast, E_last, E_xI, E_xJ, E_xQ, E_xN, E_lk, E_lkn, E_s1, E_s1h, E_s1I, E_s1R, E_s1N, E_s1L, E_s2, E_s2h, E_s2L, E_s2I, E_s2R, E_s2N, E_a1, E_a0, E_aI, E_aR, E_aN, E_aL, Option.isSome_some, eq_self, true_and, and_true, true_or, or_true, ne_eq, not_false_eq_true, not_true_eq_false, reduceIte, reduceCtorEq, Nat.reduceAdd, Nat.reduceBEq, Nat.reduceEqDiff, Option.toList_some, Option.toList_none, List.cons_append, List.nil_append]
    refine sp_callV hz (c_Mod_commandOf l G) (ci := 8) (As := []) (rest := []) rfl w_Mod_329 (by decide) hS1.o rfl (Nat.le_of_ble_eq_true rfl) d_Mod_send_15 ⟨B, s, [], R, pg, wz, fr, V1, rfl, hS1, hwo, ?_⟩ rfl
    rw [hc]
    -- behind 'breaks'
    have k35 : ∀ (L0 : sp_L), (∀ q ∈ [(0, .ref (B 0)), (1, .int (nI c))], q ∈ L0) → sp_W z G M (sp_Q z G M Post 0 0) 3 0 0 35 L0 [.int (b2i (decide (ce < s.length)))] M1 := by
      intro L0 hL0
      refine sp_Lm _ hL0 ?_
      refine sp_run hz _ _ e_Mod_send_35 _ _ _ ?_
      simp only [k_Mod_send_35, E_nil, E_iconst, E_bipush, E_sipush, E_ldc, E_ldc2, E_lconst, E_null, E_iload_n, E_lload_n, E_aload_n, E_istore_n, E_lstore_n, E_astore_n, E_astoreN_n, E_iload, E_lload, E_aload, E_istore, E_lstore, E_astore, E_astoreN, E_ldi, E_ldl, E_lda, E_ldN, E_iinc, E_iadd, E_isub, E_imul, E_iand, E_ior, E_ixor, E_ishl, E_ishr, E_idiv, E_irem, E_ineg, E_ladd, E_lsub, E_land, E_lor, E_lcmp, E_lshl, E_lshr, E_lushr, E_i2l, E_l2i, E_i2c, E_dupI, E_popI, E_dup_x1II, E_dup2II, E_dup_x1IR, E_dup2IR, E_dup_x1IN, E_dup2IN, E_dupR, E_popR, E_dup_x1RI, E_dup2RI, E_dup_x1RR, E_dup2RR, E_dup_x1RN, E_dup2RN, E_dupN, E_popN, E_dup_x1NI, E_dup2NI, E_dup_x1NR, E_dup2NR, E_dup_x1NN, E_dup2NN, E_goto, E_if_eq, E_if_ne, E_if_lt, E_if_ge, E_if_gt, E_if_le, E_ic_eq, E_ic_ne, E_ic_lt, E_ic_ge, E_ic_gt, E_ic_le, E_ifnull, E_ifnullN, E_ifnonnull, E_ifnonnullN, E_get, E_gf, E_xv, E_n0, E_ns, E_putI, E_putR, E_putN, E_pf, E_st0, E_sts, E_iaload, E_caload, E_laload, E_aaload, E_alen, E_iast, E_cast, E_last, E_xI, E_xJ, E_xQ, E_xN, E_lk, E_lkn, E_s1, E_s1h, E_s1I, E_s1R, E_s1N, E_s1L, E_s2, E_s2h, E_s2L, E_s2I, E_s2R, E_s2N, E_a1, E_a0, E_aI, E_aR, E_aN, E_aL, Option.isSome_some, eq_self, true_and, and_true, true_or, or_true, ne_eq, not_false_eq_true, not_true_eq_false, reduceIte, reduceCtorEq, Nat.reduceAdd, Nat.reduceBEq, Nat.reduceEqDiff, Option.toList_some, Option.toList_none, List.cons_append, List.nil_append]
      refine ⟨fun h => ?_, fun h => ?_⟩
      · have c0 : c ≠ 0 := fun q => h (by rw [q]; rfl)
        refine sp_run hz _ _ e_Mod_send_47 _ _ _ ?_
        simp only [k_Mod_send_47, E_nil, E_iconst, E_bipush, E_sipush, E_ldc, E_ldc2, E_lconst, E_null, E_iload_n, E_lload_n, E_aload_n, E_istore_n, E_lstore_n, E_astore_n, E_astoreN_n, E_iload, E_lload, E_aload, E_istore, E_lstore, E_astore, E_astoreN, E_ldi, E_ldl, E_lda, E_ldN, E_iinc, E_iadd, E_isub, E_imul, E_iand, E_ior, E_ixor, E_ishl, E_ishr, E_idiv, E_irem, E_ineg, E_ladd, E_lsub, E_land, E_lor, E_lcmp, E_lshl, E_lshr, E_lushr, E_i2l, E_l2i, E_i2c, E_dupI, E_popI, E_dup_x1II, E_dup2II, E_dup_x1IR, E_dup2IR, E_dup_x1IN, E_dup2IN, E_dupR, E_popR, E_dup_x1RI, E_dup2RI, E_dup_x1RR, E_dup2RR, E_dup_x1RN, E_dup2RN, E_dupN, E_popN, E_dup_x1NI, E_dup2NI, E_dup_x1NR, E_dup2NR, E_dup_x1NN, E_dup2NN, E_goto, E_if_eq, E_if_ne, E_if_lt, E_if_ge, E_if_gt, E_if_le, E_ic_eq, E_ic_ne, E_ic_lt, E_ic_ge, E_ic_gt, E_ic_le, E_ifnull, E_ifnullN, E_ifnonnull, E_ifnonnullN, E_get, E_gf, E_xv, E_n0, E_ns, E_putI, E_putR, E_putN, E_pf, E_st0, E_sts, E_iaload, E_caload, E_laload, E_aaload, E_alen, E_iast, E_cast, E_last, E_xI, E_xJ, E_xQ, E_xN, E_lk, E_lkn, E_s1, E_s1h, E_s1I, E_s1R, E_s1N, E_s1L, E_s2, E_s2h, E_s2L, E_s2I, E_s2R, E_s2N, E_a1, E_a0, E_aI, E_aR, E_aN, E_aL, Option.isSome_some, eq_self, true_and, and_true, true_or, or_true, ne_eq, not_false_eq_true, not_true_eq_false, reduceIte, reduceCtorEq, Nat.reduceAdd, Nat.reduceBEq, Nat.reduceEqDiff, Option.toList_some, Option.toList_none, List.cons_append, List.nil_append]
        refine sp_callV hz (c_Mod_isFormed l G) (ci := 8) (As := [.int (nI c)]) (rest := []) rfl w_Mod_335 (by decide) hS1.o rfl (Nat.le_of_ble_eq_true rfl) d_Mod_send_49 ⟨B, s, [], R, pg, wz, fr, V1, c, rfl, hS1, hwo, by omega, hcm, ?_⟩ rfl
        refine sp_run hz _ _ e_Mod_send_52 _ _ _ ?_
        simp only [k_Mod_send_52, E_nil, E_iconst, E_bipush, E_sipush, E_ldc, E_ldc2, E_lconst, E_null, E_iload_n, E_lload_n, E_aload_n, E_istore_n, E_lstore_n, E_astore_n, E_astoreN_n, E_iload, E_lload, E_aload, E_istore, E_lstore, E_astore, E_astoreN, E_ldi, E_ldl, E_lda, E_ldN, E_iinc, E_iadd, E_isub, E_imul, E_iand, E_ior, E_ixor, E_ishl, E_ishr, E_idiv, E_irem, E_ineg, E_ladd, E_lsub, E_land, E_lor, E_lcmp, E_lshl, E_lshr, E_lushr, E_i2l, E_l2i, E_i2c, E_dupI, E_popI, E_dup_x1II, E_dup2II, E_dup_x1IR, E_dup2IR, E_dup_x1IN, E_dup2IN, E_dupR, E_popR, E_dup_x1RI, E_dup2RI, E_dup_x1RR, E_dup2RR, E_dup_x1RN, E_dup2RN, E_dupN, E_popN, E_dup_x1NI, E_dup2NI, E_dup_x1NR, E_dup2NR, E_dup_x1NN, E_dup2NN, E_goto, E_if_eq, E_if_ne, E_if_lt, E_if_ge, E_if_gt, E_if_le, E_ic_eq, E_ic_ne, E_ic_lt, E_ic_ge, E_ic_gt, E_ic_le, E_ifnull, E_ifnullN, E_ifnonnull, E_ifnonnullN, E_get, E_gf, E_xv, E_n0, E_ns, E_putI, E_putR, E_putN, E_pf, E_st0, E_sts, E_iaload, E_caload, E_laload, E_aaload, E_alen, E_iast, E_cast, E_last, E_xI, E_xJ, E_xQ, E_xN, E_lk, E_lkn, E_s1, E_s1h, E_s1I, E_s1R, E_s1N, E_s1L, E_s2, E_s2h, E_s2L, E_s2I, E_s2R, E_s2N, E_a1, E_a0, E_aI, E_aR, E_aN, E_aL, Option.isSome_some, eq_self, true_and, and_true, true_or, or_true, ne_eq, not_false_eq_true, not_true_eq_false, reduceIte, reduceCtorEq, Nat.reduceAdd, Nat.reduceBEq, Nat.reduceEqDiff, Option.toList_some, Option.toList_none, List.cons_append, List.nil_append]
        cases hfm : fmd c s wz with
        | false =>
          refine ⟨fun h => absurd rfl h, fun _ => ?_⟩
          refine sp_callV hz (c_Mod_badFormat l G) (ci := 8) (As := []) (rest := []) rfl w_Mod_338 (by decide) hS1.o rfl (Nat.le_of_ble_eq_true rfl) d_Mod_send_56 ⟨B, s, [], R, pg, wz, fr, V1, rfl, hS1, by decide, fun M2 hS2 hf2 => ?_⟩ rfl
          refine sp_run hz _ _ e_Mod_send_59 _ _ _ ?_
          simp only [k_Mod_send_59, E_nil, E_iconst, E_bipush, E_sipush, E_ldc, E_ldc2, E_lconst, E_null, E_iload_n, E_lload_n, E_aload_n, E_istore_n, E_lstore_n, E_astore_n, E_astoreN_n, E_iload, E_lload, E_aload, E_istore, E_lstore, E_astore, E_astoreN, E_ldi, E_ldl, E_lda, E_ldN, E_iinc, E_iadd, E_isub, E_imul, E_iand, E_ior, E_ixor, E_ishl, E_ishr, E_idiv, E_irem, E_ineg, E_ladd, E_lsub, E_land, E_lor, E_lcmp, E_lshl, E_lshr, E_lushr, E_i2l, E_l2i, E_i2c, E_dupI, E_popI, E_dup_x1II, E_dup2II, E_dup_x1IR, E_dup2IR, E_dup_x1IN, E_dup2IN, E_dupR, E_popR, E_dup_x1RI, E_dup2RI, E_dup_x1RR, E_dup2RR, E_dup_x1RN, E_dup2RN, E_dupN, E_popN, E_dup_x1NI, E_dup2NI, E_dup_x1NR, E_dup2NR, E_dup_x1NN, E_dup2NN, E_goto, E_if_eq, E_if_ne, E_if_lt, E_if_ge, E_if_gt, E_if_le, E_ic_eq, E_ic_ne, E_ic_lt, E_ic_ge, E_ic_gt, E_ic_le, E_ifnull, E_ifnullN, E_ifnonnull, E_ifnonnullN, E_get, E_gf, E_xv, E_n0, E_ns, E_putI, E_putR, E_putN, E_pf, E_st0, E_sts, E_iaload, E_caload, E_laload, E_aaload, E_alen, E_iast, E_cast, E_last, E_xI, E_xJ, E_xQ, E_xN, E_lk, E_lkn, E_s1, E_s1h, E_s1I, E_s1R, E_s1N, E_s1L, E_s2, E_s2h, E_s2L, E_s2I, E_s2R, E_s2N, E_a1, E_a0, E_aI, E_aR, E_aN, E_aL, Option.isSome_some, eq_self, true_and, and_true, true_or, or_true, ne_eq, not_false_eq_true, not_true_eq_false, reduceIte, reduceCtorEq, Nat.reduceAdd, Nat.reduceBEq, Nat.reduceEqDiff, Option.toList_some, Option.toList_none, List.cons_append, List.nil_append]
          exact ans (sv 2) M2 _ _ (by simp) rfl hS2 hf2 (esn _ (by rw [if_neg c0, if_pos hfm]))
        | true =>
          refine ⟨fun _ => ?_, fun h => absurd h (by decide)⟩
          have bad : dtO c s wz ce = false → ∀ (L0 : sp_L), (∀ q ∈ [(0, .ref (B 0))], q ∈ L0) → sp_W z G M (sp_Q z G M Post 0 0) 3 0 0 99 L0 [] M1 := by
            intro hd L0 hL0
            refine sp_Lm _ hL0 ?_
            refine sp_run hz _ _ e_Mod_send_99 _ _ _ ?_
            simp only [k_Mod_send_99, E_nil, E_iconst, E_bipush, E_sipush, E_ldc, E_ldc2, E_lconst, E_null, E_iload_n, E_lload_n, E_aload_n, E_istore_n, E_lstore_n, E_astore_n, E_astoreN_n, E_iload, E_lload, E_aload, E_istore, E_lstore, E_astore, E_astoreN, E_ldi, E_ldl, E_lda, E_ldN, E_iinc, E_iadd, E_isub, E_imul, E_iand, E_ior, E_ixor, E_ishl, E_ishr, E_idiv, E_irem, E_ineg, E_ladd, E_lsub, E_land, E_lor, E_lcmp, E_lshl, E_lshr, E_lushr, E_i2l, E_l2i, E_i2c, E_dupI, E_popI, E_dup_x1II, E_dup2II, E_dup_x1IR, E_dup2IR, E_dup_x1IN, E_dup2IN, E_dupR, E_popR, E_dup_x1RI, E_dup2RI, E_dup_x1RR, E_dup2RR, E_dup_x1RN, E_dup2RN, E_dupN, E_popN, E_dup_x1NI, E_dup2NI, E_dup_x1NR, E_dup2NR, E_dup_x1NN, E_dup2NN, E_goto, E_if_eq, E_if_ne, E_if_lt, E_if_ge, E_if_gt, E_if_le, E_ic_eq, E_ic_ne, E_ic_lt, E_ic_ge, E_ic_gt, E_ic_le, E_ifnull, E_ifnullN, E_ifnonnull, E_ifnonnullN, E_get, E_gf, E_xv, E_n0, E_ns, E_putI, E_putR, E_putN, E_pf, E_st0, E_sts, E_iaload, E_caload, E_laload, E_aaload, E_alen, E_iast, E_cast, E_last, E_xI, E_xJ, E_xQ, E_xN, E_lk, E_lkn, E_s1, E_s1h, E_s1I, E_s1R, E_s1N, E_s1L, E_s2, E_s2h, E_s2L, E_s2I, E_s2R, E_s2N, E_a1, E_a0, E_aI, E_aR, E_aN, E_aL, Option.isSome_some, eq_self, true_and, and_true, true_or, or_true, ne_eq, not_false_eq_true, not_true_eq_false, reduceIte, reduceCtorEq, Nat.reduceAdd, Nat.reduceBEq, Nat.reduceEqDiff, Option.toList_some, Option.toList_none, List.cons_append, List.nil_append]
            refine sp_callV hz (c_Mod_badChunk l G) (ci := 8) (As := []) (rest := []) rfl w_Mod_341 (by decide) hS1.o rfl (Nat.le_of_ble_eq_true rfl) d_Mod_send_100 ⟨B, s, [], R, pg, wz, fr, V1, rfl, hS1, by decide, fun M2 hS2 hf2 => ?_⟩ rfl
            refine sp_run hz _ _ e_Mod_send_103 _ _ _ ?_
            simp only [k_Mod_send_103, E_nil, E_iconst, E_bipush, E_sipush, E_ldc, E_ldc2, E_lconst, E_null, E_iload_n, E_lload_n, E_aload_n, E_istore_n, E_lstore_n, E_astore_n, E_astoreN_n, E_iload, E_lload, E_aload, E_istore, E_lstore, E_astore, E_astoreN, E_ldi, E_ldl, E_lda, E_ldN, E_iinc, E_iadd, E_isub, E_imul, E_iand, E_ior, E_ixor, E_ishl, E_ishr, E_idiv, E_irem, E_ineg, E_ladd, E_lsub, E_land, E_lor, E_lcmp, E_lshl, E_lshr, E_lushr, E_i2l, E_l2i, E_i2c, E_dupI, E_popI, E_dup_x1II, E_dup2II, E_dup_x1IR, E_dup2IR, E_dup_x1IN, E_dup2IN, E_dupR, E_popR, E_dup_x1RI, E_dup2RI, E_dup_x1RR, E_dup2RR, E_dup_x1RN, E_dup2RN, E_dupN, E_popN, E_dup_x1NI, E_dup2NI, E_dup_x1NR, E_dup2NR, E_dup_x1NN, E_dup2NN, E_goto, E_if_eq, E_if_ne, E_if_lt, E_if_ge, E_if_gt, E_if_le, E_ic_eq, E_ic_ne, E_ic_lt, E_ic_ge, E_ic_gt, E_ic_le, E_ifnull, E_ifnullN, E_ifnonnull, E_ifnonnullN, E_get, E_gf, E_xv, E_n0, E_ns, E_putI, E_putR, E_putN, E_pf, E_st0, E_sts, E_iaload, E_caload, E_laload, E_aaload, E_alen, E_iast, E_cast, E_last, E_xI, E_xJ, E_xQ, E_xN, E_lk, E_lkn, E_s1, E_s1h, E_s1I, E_s1R, E_s1N, E_s1L, E_s2, E_s2h, E_s2L, E_s2I, E_s2R, E_s2N, E_a1, E_a0, E_aI, E_aR, E_aN, E_aL, Option.isSome_some, eq_self, true_and, and_true, true_or, or_true, ne_eq, not_false_eq_true, not_true_eq_false, reduceIte, reduceCtorEq, Nat.reduceAdd, Nat.reduceBEq, Nat.reduceEqDiff, Option.toList_some, Option.toList_none, List.cons_append, List.nil_append]
            exact ans (sv 4) M2 _ _ (by simp) rfl hS2 hf2 (esn _ (by rw [if_neg c0, if_neg (by rw [hfm]; decide), if_pos hd]))
          have good : dtO c s wz ce = true → ∀ (L0 : sp_L), (∀ q ∈ [(0, .ref (B 0)), (1, .int (nI c))], q ∈ L0) → sp_W z G M (sp_Q z G M Post 0 0) 3 0 0 106 L0 [] M1 := by
            intro hd L0 hL0
            refine sp_Lm _ hL0 ?_
            obtain ⟨v, rfl⟩ : ∃ v, c = v + 1 := ⟨c - 1, by omega⟩
            have hwl : 1 ≤ wz.length := by
              refine Nat.pos_of_ne_zero fun q => ?_
              have e : wt s wz 0 = [] := by
                have h0 : wL wz 0 = 0 := by
                  unfold wL
                  rw [pu_getD_out (by omega)]
                unfold wt
                rw [h0, pu_seg_0]
              rw [e] at hc
              exact absurd hc (by rw [show cmo [] = 0 from by decide]; omega)
            have eo := esn _ (by rw [if_neg c0, if_neg (by rw [hfm]; decide), if_neg (by rw [hd]; decide)])
            rw [Nat.add_sub_cancel] at eo
            refine sp_run hz _ _ e_Mod_send_106 _ _ _ ?_
            simp only [k_Mod_send_106, E_nil, E_iconst, E_bipush, E_sipush, E_ldc, E_ldc2, E_lconst, E_null, E_iload_n, E_lload_n, E_aload_n, E_istore_n, E_lstore_n, E_astore_n, E_astoreN_n, E_iload, E_lload, E_aload, E_istore, E_lstore, E_astore, E_astoreN, E_ldi, E_ldl, E_lda, E_ldN, E_iinc, E_iadd, E_isub, E_imul, E_iand, E_ior, E_ixor, E_ishl, E_ishr, E_idiv, E_irem, E_ineg, E_ladd, E_lsub, E_land, E_lor, E_lcmp, E_lshl, E_lshr, E_lushr, E_i2l, E_l2i, E_i2c, E_dupI, E_popI, E_dup_x1II, E_dup2II, E_dup_x1IR, E_dup2IR, E_dup_x1IN, E_dup2IN, E_dupR, E_popR, E_dup_x1RI, E_dup2RI, E_dup_x1RR, E_dup2RR, E_dup_x1RN, E_dup2RN, E_dupN, E_popN, E_dup_x1NI, E_dup2NI, E_dup_x1NR, E_dup2NR, E_dup_x1NN, E_dup2NN, E_goto, E_if_eq, E_if_ne, E_if_lt, E_if_ge, E_if_gt, E_if_le, E_ic_eq, E_ic_ne, E_ic_lt, E_ic_ge, E_ic_gt, E_ic_le, E_ifnull, E_ifnullN, E_ifnonnull, E_ifnonnullN, E_get, E_gf, E_xv, E_n0, E_ns, E_putI, E_putR, E_putN, E_pf, E_st0, E_sts, E_iaload, E_caload, E_laload, E_aaload, E_alen, E_iast, E_cast, E_last, E_xI, E_xJ, E_xQ, E_xN, E_lk, E_lkn, E_s1, E_s1h, E_s1I, E_s1R, E_s1N, E_s1L, E_s2, E_s2h, E_s2L, E_s2I, E_s2R, E_s2N, E_a1, E_a0, E_aI, E_aR, E_aN, E_aL, Option.isSome_some, eq_self, true_and, and_true, true_or, or_true, ne_eq, not_false_eq_true, not_true_eq_false, reduceIte, reduceCtorEq, Nat.reduceAdd, Nat.reduceBEq, Nat.reduceEqDiff, Option.toList_some, Option.toList_none, List.cons_append, List.nil_append]
            refine sp_callV hz (c_Mod_act l G) (ci := 8) (As := [.int (nI (v + 1))]) (rest := []) rfl w_Mod_344 (by decide) hS1.o rfl (Nat.le_of_ble_eq_true rfl) d_Mod_send_108 ⟨B, s, L, pg, wz, fr, V1, v, nn.1, rfl, ⟨R, hS1, hsr1, hkd⟩, hwo, hwl, by omega, hfm, by rw [w14]; exact hti, by rw [w14]; exact hti30, by omega, hfp, hle, by rw [w15]; exact hv15, by omega, fun M2 pg' L' nn' h' m' a' fr' V' es hA2 e14 e15 e17 e18 e19 e20 e16 hvs hf2 => ?_⟩ rfl
            obtain ⟨R2, hS2, hsr2, hkd2⟩ := hA2
            rw [w24, w14, w15, w17, w18, w19, w20] at es
            have es : oby v s wz ce L pg nn hh mm = (pg', L', nn', h', m', a') := es
            rw [es] at eo
            exact fin _ R2 L' pg' fr' V' nn' h' m' M2 _ (by simp) hS2 hsr2 hkd2 eo ⟨e14, e15, e17, e18, e19, e20⟩ ((hvs 0 (by decide)).trans w0) (by omega) (f1.trans hf2)
          refine sp_run hz _ _ e_Mod_send_62 _ _ _ ?_
          simp only [k_Mod_send_62, E_nil, E_iconst, E_bipush, E_sipush, E_ldc, E_ldc2, E_lconst, E_null, E_iload_n, E_lload_n, E_aload_n, E_istore_n, E_lstore_n, E_astore_n, E_astoreN_n, E_iload, E_lload, E_aload, E_istore, E_lstore, E_astore, E_astoreN, E_ldi, E_ldl, E_lda, E_ldN, E_iinc, E_iadd, E_isub, E_imul, E_iand, E_ior, E_ixor, E_ishl, E_ishr, E_idiv, E_irem, E_ineg, E_ladd, E_lsub, E_land, E_lor, E_lcmp, E_lshl, E_lshr, E_lushr, E_i2l, E_l2i, E_i2c, E_dupI, E_popI, E_dup_x1II, E_dup2II, E_dup_x1IR, E_dup2IR, E_dup_x1IN, E_dup2IN, E_dupR, E_popR, E_dup_x1RI, E_dup2RI, E_dup_x1RR, E_dup2RR, E_dup_x1RN, E_dup2RN, E_dupN, E_popN, E_dup_x1NI, E_dup2NI, E_dup_x1NR, E_dup2NR, E_dup_x1NN, E_dup2NN, E_goto, E_if_eq, E_if_ne, E_if_lt, E_if_ge, E_if_gt, E_if_le, E_ic_eq, E_ic_ne, E_ic_lt, E_ic_ge, E_ic_gt, E_ic_le, E_ifnull, E_ifnullN, E_ifnonnull, E_ifnonnullN, E_get, E_gf, E_xv, E_n0, E_ns, E_putI, E_putR, E_putN, E_pf, E_st0, E_sts, E_iaload, E_caload, E_laload, E_aaload, E_alen, E_iast, E_cast, E_last, E_xI, E_xJ, E_xQ, E_xN, E_lk, E_lkn, E_s1, E_s1h, E_s1I, E_s1R, E_s1N, E_s1L, E_s2, E_s2h, E_s2L, E_s2I, E_s2R, E_s2N, E_a1, E_a0, E_aI, E_aR, E_aN, E_aL, Option.isSome_some, eq_self, true_and, and_true, true_or, or_true, ne_eq, not_false_eq_true, not_true_eq_false, reduceIte, reduceCtorEq, Nat.reduceAdd, Nat.reduceBEq, Nat.reduceEqDiff, Option.toList_some, Option.toList_none, List.cons_append, List.nil_append, hS1.o, rn_1, rn_24, w1, w24]
          refine ⟨fun h => ?_, fun h => ?_⟩
          · have h6 : 6 < c := (nI_ltI (a := 6) (by decide) (by omega)).mp h
            have ed : dtO c s wz ce = decide (ce = s.length) := by unfold dtO; rw [if_neg (by omega)]
            refine sp_run hz _ _ e_Mod_send_95 _ _ _ ?_
            simp only [k_Mod_send_95, E_nil, E_iconst, E_bipush, E_sipush, E_ldc, E_ldc2, E_lconst, E_null, E_iload_n, E_lload_n, E_aload_n, E_istore_n, E_lstore_n, E_astore_n, E_astoreN_n, E_iload, E_lload, E_aload, E_istore, E_lstore, E_astore, E_astoreN, E_ldi, E_ldl, E_lda, E_ldN, E_iinc, E_iadd, E_isub, E_imul, E_iand, E_ior, E_ixor, E_ishl, E_ishr, E_idiv, E_irem, E_ineg, E_ladd, E_lsub, E_land, E_lor, E_lcmp, E_lshl, E_lshr, E_lushr, E_i2l, E_l2i, E_i2c, E_dupI, E_popI, E_dup_x1II, E_dup2II, E_dup_x1IR, E_dup2IR, E_dup_x1IN, E_dup2IN, E_dupR, E_popR, E_dup_x1RI, E_dup2RI, E_dup_x1RR, E_dup2RR, E_dup_x1RN, E_dup2RN, E_dupN, E_popN, E_dup_x1NI, E_dup2NI, E_dup_x1NR, E_dup2NR, E_dup_x1NN, E_dup2NN, E_goto, E_if_eq, E_if_ne, E_if_lt, E_if_ge, E_if_gt, E_if_le, E_ic_eq, E_ic_ne, E_ic_lt, E_ic_ge, E_ic_gt, E_ic_le, E_ifnull, E_ifnullN, E_ifnonnull, E_ifnonnullN, E_get, E_gf, E_xv, E_n0, E_ns, E_putI, E_putR, E_putN, E_pf, E_st0, E_sts, E_iaload, E_caload, E_laload, E_aaload, E_alen, E_iast, E_cast, E_last, E_xI, E_xJ, E_xQ, E_xN, E_lk, E_lkn, E_s1, E_s1h, E_s1I, E_s1R, E_s1N, E_s1L, E_s2, E_s2h, E_s2L, E_s2I, E_s2R, E_s2N, E_a1, E_a0, E_aI, E_aR, E_aN, E_aL, Option.isSome_some, eq_self, true_and, and_true, true_or, or_true, ne_eq, not_false_eq_true, not_true_eq_false, reduceIte, reduceCtorEq, Nat.reduceAdd, Nat.reduceBEq, Nat.reduceEqDiff, Option.toList_some, Option.toList_none, List.cons_append, List.nil_append]
            cases hb : decide (ce < s.length) with
            | true => exact ⟨fun h => absurd h (by decide), fun _ => bad (by rw [ed]; exact decide_eq_false (by have := of_decide_eq_true hb; omega)) _ (by simp)⟩
            | false => exact ⟨fun _ => good (by rw [ed]; exact decide_eq_true (by have := of_decide_eq_false hb; omega)) _ (by simp), fun h => absurd rfl h⟩
          · have h6 : c ≤ 6 := Nat.not_lt.mp fun q => h ((nI_ltI (a := 6) (by decide) (by omega)).mpr q)
            have ed : dtO c s wz ce = decide (ce < s.length ∧ s.length - ce - 1 = pu_val (wt s wz 4)) := by unfold dtO; rw [if_pos h6]
            have hn4 : isn s wz 4 = true := by
              obtain ⟨v, rfl⟩ : ∃ v, c = v + 1 := ⟨c - 1, by omega⟩
              exact (fmd_st (by omega) hfm).2.2.2.1
            obtain ⟨en4, hn49⟩ := isn_v hn4
            cases hb : decide (ce < s.length) with
            | false => exact ⟨fun _ => bad (by rw [ed]; exact decide_eq_false (fun q => absurd q.1 (of_decide_eq_false hb))) _ (by simp), fun h => absurd rfl h⟩
            | true =>
              have hlt := of_decide_eq_true hb
              have e1 : nI s.length - nI ce - 1 = nI (s.length - ce - 1) := by
                rw [pk_sub (by omega)]
                exact pk_sub (b := 1) (by omega)
              refine ⟨fun h => absurd h (by decide), fun _ => ?_⟩
              rw [e1]
              refine sp_callV hz (c_Mod_numberIn l G) (ci := 8) (As := [.int (nI 4), .int (nI 0)]) (rest := [.int (nI (s.length - ce - 1))]) rfl w_Mod_152 (by decide) hS1.o rfl (Nat.le_of_ble_eq_true rfl) d_Mod_send_86 ⟨B, s, [], R, pg, wz, fr, V1, 4, 0, rfl, hS1, hwo, by decide, Nat.zero_le _, ?_⟩ rfl
              rw [en4]
              refine sp_run hz _ _ e_Mod_send_89 _ _ _ ?_
              simp only [k_Mod_send_89, E_nil, E_iconst, E_bipush, E_sipush, E_ldc, E_ldc2, E_lconst, E_null, E_iload_n, E_lload_n, E_aload_n, E_istore_n, E_lstore_n, E_astore_n, E_astoreN_n, E_iload, E_lload, E_aload, E_istore, E_lstore, E_astore, E_astoreN, E_ldi, E_ldl, E_lda, E_ldN, E_iinc, E_iadd, E_isub, E_imul, E_iand, E_ior, E_ixor, E_ishl, E_ishr, E_idiv, E_irem, E_ineg, E_ladd, E_lsub, E_land, E_lor, E_lcmp, E_lshl, E_lshr, E_lushr, E_i2l, E_l2i, E_i2c, E_dupI, E_popI, E_dup_x1II, E_dup2II, E_dup_x1IR, E_dup2IR, E_dup_x1IN, E_dup2IN, E_dupR, E_popR, E_dup_x1RI, E_dup2RI, E_dup_x1RR, E_dup2RR, E_dup_x1RN, E_dup2RN, E_dupN, E_popN, E_dup_x1NI, E_dup2NI, E_dup_x1NR, E_dup2NR, E_dup_x1NN, E_dup2NN, E_goto, E_if_eq, E_if_ne, E_if_lt, E_if_ge, E_if_gt, E_if_le, E_ic_eq, E_ic_ne, E_ic_lt, E_ic_ge, E_ic_gt, E_ic_le, E_ifnull, E_ifnullN, E_ifnonnull, E_ifnonnullN, E_get, E_gf, E_xv, E_n0, E_ns, E_putI, E_putR, E_putN, E_pf, E_st0, E_sts, E_iaload, E_caload, E_laload, E_aaload, E_alen, E_iast, E_cast, E_last, E_xI, E_xJ, E_xQ, E_xN, E_lk, E_lkn, E_s1, E_s1h, E_s1I, E_s1R, E_s1N, E_s1L, E_s2, E_s2h, E_s2L, E_s2I, E_s2R, E_s2N, E_a1, E_a0, E_aI, E_aR, E_aN, E_aL, Option.isSome_some, eq_self, true_and, and_true, true_or, or_true, ne_eq, not_false_eq_true, not_true_eq_false, reduceIte, reduceCtorEq, Nat.reduceAdd, Nat.reduceBEq, Nat.reduceEqDiff, Option.toList_some, Option.toList_none, List.cons_append, List.nil_append]
              refine ⟨fun h => good (by rw [ed]; exact decide_eq_true ⟨hlt, (nI_eq (by omega) (by omega)).mp h⟩) _ (by simp), fun h => bad (by rw [ed]; exact decide_eq_false (fun q => h (by rw [q.2]))) _ (by simp)⟩
      · have c0 : c = 0 := (eqc 0 (by decide)).mp h
        refine sp_callV hz (c_Mod_sayError l G) (ci := 8) (As := []) (rest := []) rfl w_Mod_332 (by decide) hS1.o rfl (Nat.le_of_ble_eq_true rfl) d_Mod_send_41 ⟨B, s, [], R, pg, wz, fr, V1, rfl, hS1, by decide, fun M2 hS2 hf2 => ?_⟩ rfl
        refine sp_run hz _ _ e_Mod_send_44 _ _ _ ?_
        simp only [k_Mod_send_44, E_nil, E_iconst, E_bipush, E_sipush, E_ldc, E_ldc2, E_lconst, E_null, E_iload_n, E_lload_n, E_aload_n, E_istore_n, E_lstore_n, E_astore_n, E_astoreN_n, E_iload, E_lload, E_aload, E_istore, E_lstore, E_astore, E_astoreN, E_ldi, E_ldl, E_lda, E_ldN, E_iinc, E_iadd, E_isub, E_imul, E_iand, E_ior, E_ixor, E_ishl, E_ishr, E_idiv, E_irem, E_ineg, E_ladd, E_lsub, E_land, E_lor, E_lcmp, E_lshl, E_lshr, E_lushr, E_i2l, E_l2i, E_i2c, E_dupI, E_popI, E_dup_x1II, E_dup2II, E_dup_x1IR, E_dup2IR, E_dup_x1IN, E_dup2IN, E_dupR, E_popR, E_dup_x1RI, E_dup2RI, E_dup_x1RR, E_dup2RR, E_dup_x1RN, E_dup2RN, E_dupN, E_popN, E_dup_x1NI, E_dup2NI, E_dup_x1NR, E_dup2NR, E_dup_x1NN, E_dup2NN, E_goto, E_if_eq, E_if_ne, E_if_lt, E_if_ge, E_if_gt, E_if_le, E_ic_eq, E_ic_ne, E_ic_lt, E_ic_ge, E_ic_gt, E_ic_le, E_ifnull, E_ifnullN, E_ifnonnull, E_ifnonnullN, E_get, E_gf, E_xv, E_n0, E_ns, E_putI, E_putR, E_putN, E_pf, E_st0, E_sts, E_iaload, E_caload, E_laload, E_aaload, E_alen, E_iast, E_cast, E_last, E_xI, E_xJ, E_xQ, E_xN, E_lk, E_lkn, E_s1, E_s1h, E_s1I, E_s1R, E_s1N, E_s1L, E_s2, E_s2h, E_s2L, E_s2I, E_s2R, E_s2N, E_a1, E_a0, E_aI, E_aR, E_aN, E_aL, Option.isSome_some, eq_self, true_and, and_true, true_or, or_true, ne_eq, not_false_eq_true, not_true_eq_false, reduceIte, reduceCtorEq, Nat.reduceAdd, Nat.reduceBEq, Nat.reduceEqDiff, Option.toList_some, Option.toList_none, List.cons_append, List.nil_append]
        exact ans (sv 0) M2 _ _ (by simp) rfl hS2 hf2 (esn _ (by rw [if_pos c0]))
    refine sp_run hz _ _ e_Mod_send_18 _ _ _ ?_
    simp only [k_Mod_send_18, E_nil, E_iconst, E_bipush, E_sipush, E_ldc, E_ldc2, E_lconst, E_null, E_iload_n, E_lload_n, E_aload_n, E_istore_n, E_lstore_n, E_astore_n, E_astoreN_n, E_iload, E_lload, E_aload, E_istore, E_lstore, E_astore, E_astoreN, E_ldi, E_ldl, E_lda, E_ldN, E_iinc, E_iadd, E_isub, E_imul, E_iand, E_ior, E_ixor, E_ishl, E_ishr, E_idiv, E_irem, E_ineg, E_ladd, E_lsub, E_land, E_lor, E_lcmp, E_lshl, E_lshr, E_lushr, E_i2l, E_l2i, E_i2c, E_dupI, E_popI, E_dup_x1II, E_dup2II, E_dup_x1IR, E_dup2IR, E_dup_x1IN, E_dup2IN, E_dupR, E_popR, E_dup_x1RI, E_dup2RI, E_dup_x1RR, E_dup2RR, E_dup_x1RN, E_dup2RN, E_dupN, E_popN, E_dup_x1NI, E_dup2NI, E_dup_x1NR, E_dup2NR, E_dup_x1NN, E_dup2NN, E_goto, E_if_eq, E_if_ne, E_if_lt, E_if_ge, E_if_gt, E_if_le, E_ic_eq, E_ic_ne, E_ic_lt, E_ic_ge, E_ic_gt, E_ic_le, E_ifnull, E_ifnullN, E_ifnonnull, E_ifnonnullN, E_get, E_gf, E_xv, E_n0, E_ns, E_putI, E_putR, E_putN, E_pf, E_st0, E_sts, E_iaload, E_caload, E_laload, E_aaload, E_alen, E_iast, E_cast, E_last, E_xI, E_xJ, E_xQ, E_xN, E_lk, E_lkn, E_s1, E_s1h, E_s1I, E_s1R, E_s1N, E_s1L, E_s2, E_s2h, E_s2L, E_s2I, E_s2R, E_s2N, E_a1, E_a0, E_aI, E_aR, E_aN, E_aL, Option.isSome_some, eq_self, true_and, and_true, true_or, or_true, ne_eq, not_false_eq_true, not_true_eq_false, reduceIte, reduceCtorEq, Nat.reduceAdd, Nat.reduceBEq, Nat.reduceEqDiff, Option.toList_some, Option.toList_none, List.cons_append, List.nil_append, hS1.o, rn_1, rn_24, w1, w24]
    refine ⟨fun h => ?_, fun h => ?_⟩
    · have hge : s.length ≤ ce := (nI_leI (by omega) (by omega)).mp h
      rw [decide_eq_false (show ¬ ce < s.length by omega)] at k35
      refine sp_run hz _ _ e_Mod_send_34 _ _ _ ?_
      simp only [k_Mod_send_34, E_nil, E_iconst, E_bipush, E_sipush, E_ldc, E_ldc2, E_lconst, E_null, E_iload_n, E_lload_n, E_aload_n, E_istore_n, E_lstore_n, E_astore_n, E_astoreN_n, E_iload, E_lload, E_aload, E_istore, E_lstore, E_astore, E_astoreN, E_ldi, E_ldl, E_lda, E_ldN, E_iinc, E_iadd, E_isub, E_imul, E_iand, E_ior, E_ixor, E_ishl, E_ishr, E_idiv, E_irem, E_ineg, E_ladd, E_lsub, E_land, E_lor, E_lcmp, E_lshl, E_lshr, E_lushr, E_i2l, E_l2i, E_i2c, E_dupI, E_popI, E_dup_x1II, E_dup2II, E_dup_x1IR, E_dup2IR, E_dup_x1IN, E_dup2IN, E_dupR, E_popR, E_dup_x1RI, E_dup2RI, E_dup_x1RR, E_dup2RR, E_dup_x1RN, E_dup2RN, E_dupN, E_popN, E_dup_x1NI, E_dup2NI, E_dup_x1NR, E_dup2NR, E_dup_x1NN, E_dup2NN, E_goto, E_if_eq, E_if_ne, E_if_lt, E_if_ge, E_if_gt, E_if_le, E_ic_eq, E_ic_ne, E_ic_lt, E_ic_ge, E_ic_gt, E_ic_le, E_ifnull, E_ifnullN, E_ifnonnull, E_ifnonnullN, E_get, E_gf, E_xv, E_n0, E_ns, E_putI, E_putR, E_putN, E_pf, E_st0, E_sts, E_iaload, E_caload, E_laload, E_aaload, E_alen, E_iast, E_cast, E_last, E_xI, E_xJ, E_xQ, E_xN, E_lk, E_lkn, E_s1, E_s1h, E_s1I, E_s1R, E_s1N, E_s1L, E_s2, E_s2h, E_s2L, E_s2I, E_s2R, E_s2N, E_a1, E_a0, E_aI, E_aR, E_aN, E_aL, Option.isSome_some, eq_self, true_and, and_true, true_or, or_true, ne_eq, not_false_eq_true, not_true_eq_false, reduceIte, reduceCtorEq, Nat.reduceAdd, Nat.reduceBEq, Nat.reduceEqDiff, Option.toList_some, Option.toList_none, List.cons_append, List.nil_append]
      exact k35 _ (by simp)
    · have hlt : ce < s.length := Nat.not_le.mp fun q => h ((nI_leI (by omega) (by omega)).mpr q)
      rw [decide_eq_true hlt] at k35
      exact k35 _ (by simp)
