/-! The model touches and counts. -/
theorem ptE_nn (c : Nat) (L : List It) (pg : Nat → Nat) (nn : NN) : (ptE c L pg nn).2.2.2.1 = nn.2.1 ∧ (ptE c L pg nn).2.2.2.2.1 = nn.2.2.1 ∧ (ptE c L pg nn).2.2.2.2.2.2 = nn.2.2.2.2 := by
  unfold ptE
  repeat' split
  all_goals exact ⟨rfl, rfl, rfl⟩
/-- how the model's numbers stand behind a command -/
def vPost (V V' : Nat → Nat) (nn' : NN) : Prop := V' 14 = nn'.2.1 ∧ V' 15 = nn'.2.2.1 ∧ V' 17 = nn'.2.2.2.1 ∧ V' 18 = nn'.2.2.2.2 ∧ V' 16 ≤ V 16 + 3 ∧ vsm V V' [3, 5, 15, 16, 17, 18, 25]
theorem lfg_v {s : List Nat} {ws : List (Nat × Nat)} {j ti : Nat} (hl : lvk s ws j = true) (hti : ti < 2 ^ 30) (hm : hmin s ws j = false) : (liv s ws j = nI (pu_val (wt s ws j))) ∧ pu_val (wt s ws j) < 1000000000 ∧ ti < lfG s ws j ti ∧ lfG s ws j ti < 2 ^ 31 ∧ gz (lfG s ws j ti) = (if pu_val (wt s ws j) = 0 then 0 else ti + pu_val (wt s ws j)) := by
  unfold lvk okK at hl
  rw [if_neg (show ¬ (108 : Nat) = 107 by decide), hm, Bool.and_false, if_neg (by decide)] at hl
  obtain ⟨h1, h2, h3⟩ := isnum_e hl
  have hv := pu_val_lt _ s _ h3
  have h9 : 10 ^ wL ws j ≤ 10 ^ 9 := Nat.pow_le_pow_right (by decide) h2
  have hv9 : pu_val (wt s ws j) < 1000000000 := by
    show pu_val (pu_seg s (wS ws j) (wL ws j)) < _
    omega
  refine ⟨?_, hv9, ?_⟩
  · unfold liv nuv
    rw [hm, if_neg (by decide), if_pos hl]
    rfl
  · unfold lfG gz
    rw [hm, if_neg (by decide)]
    by_cases h0 : pu_val (wt s ws j) = 0
    · rw [if_pos h0, if_pos rfl, if_pos h0]
      omega
    · rw [if_neg h0, if_neg h0, if_neg (by omega)]
      omega
theorem liv_m2 {s : List Nat} {ws : List (Nat × Nat)} {j : Nat} (hl : lvk s ws j = true) (hm : hmin s ws j = true) : liv s ws j = -2 := by
  unfold lvk okK at hl
  rw [if_neg (show ¬ (108 : Nat) = 107 by decide), hm, decide_eq_true (show (108 : Nat) = 108 from rfl), Bool.and_self, if_pos rfl] at hl
  unfold liv
  rw [hm, if_pos rfl, if_pos hl]
/-- the time of a life, as the model has it -/
def gvl (s : List Nat) (ws : List (Nat × Nat)) (j ti : Nat) : Nat := if hmin s ws j = true then 2147483647 else lfG s ws j ti
theorem gvl_ok {s : List Nat} {ws : List (Nat × Nat)} {j ti : Nat} (hl : lvk s ws j = true) (hti : ti < 2 ^ 30) : 0 < gvl s ws j ti ∧ gvl s ws j ti < 2 ^ 31 := by
  unfold gvl
  cases hm : hmin s ws j with
  | true => rw [if_pos rfl]; decide
  | false =>
    rw [if_neg (by decide)]
    obtain ⟨-, -, h1, h2, -⟩ := lfg_v hl hti hm
    exact ⟨by omega, h2⟩
/-- timeOf(live) -/
theorem m_time {z : sp_Z} {G : sp_G} {M0 M : sp_M} {Q : State → Prop} {cc : ByteArray} {nL cs sl pc : Nat} {L : sp_L} {rest : List Value} {l : Launch} {R0 : Room} {ret : Option FieldType} {B : Nat → Nat} {s a fr : List Nat} {R : List (It × Nat)} {pg V : Nat → Nat} {ws : List (Nat × Nat)} (hz : sp_C z l R0 G M0 R_Mod cc nL ret) (hR : sp_rm R0 {} 2 cs sl = true) (hdg : decode cc pc = .ok (.invokevirtual 274, 3)) (hr : (rest.map fun v => v.category).sum ≤ 8) (j : Nat) (hl : lvk s ws j = true) (hti : V 14 < 2 ^ 30) (hS : rS G M B s a R pg ws fr V)
    (kk : sp_W z G M0 Q nL cs sl (pc + 3) L (.int (nI (gz (gvl s ws j (V 14)))) :: rest) M) : sp_W z G M0 Q nL cs sl pc L (.int (liv s ws j) :: .ref (B 0) :: rest) M := by
  refine sp_callV hz (c_Mod_timeOf l G) (ci := 8) (As := [.int (liv s ws j)]) (rest := rest) rfl w_Mod_274 hR hS.o rfl hr hdg ⟨B, s, a, R, pg, ws, fr, V, _, rfl, hS, fun h => ?_, fun h => ?_⟩ rfl
  · have e : gz (gvl s ws j (V 14)) = 0 := by
      unfold gvl
      cases hm : hmin s ws j with
      | true => rw [if_pos rfl]; decide
      | false =>
        rw [if_neg (by decide)]
        obtain ⟨e1, h9, -, -, e2⟩ := lfg_v hl hti hm
        rw [e1] at h
        have := (nI_leI (b := 0) (by omega) (by decide)).mp h
        rw [e2, if_pos (by omega)]
    rw [e] at kk
    exact kk
  · have e : gz (gvl s ws j (V 14)) = V 14 + pu_val (wt s ws j) ∧ liv s ws j = nI (pu_val (wt s ws j)) := by
      unfold gvl
      cases hm : hmin s ws j with
      | true =>
        rw [liv_m2 hl hm] at h
        exact absurd h (by decide)
      | false =>
        rw [if_neg (by decide)]
        obtain ⟨e1, h9, -, -, e2⟩ := lfg_v hl hti hm
        rw [e1] at h
        have := (nI_ltI (a := 0) (by decide) (by omega)).mp h
        rw [e2, if_neg (by omega)]
        exact ⟨rfl, e1⟩
    rw [e.1] at kk
    rw [e.2, show nI (V 14) + nI (pu_val (wt s ws j)) = nI (V 14 + pu_val (wt s ws j)) from (Int32.ofNat_add _ _).symm]
    exact kk
def T_Mod_doTouch (G : sp_G) : sp_T := fun av M Post => ∃ B s a R L pg ws fr V i x fp, av = [.ref (B 0), .int (nI i)] ∧ rS G M B s a R pg ws fr V ∧ sR R L (V 16) ∧ kd L ∧ R[i]? = some x ∧ iK x.1 = wt s ws 1 ∧ wOK s ws ∧ lvk s ws 2 = true ∧ V 14 < 2 ^ 30 ∧ V 16 + 1 < 2 ^ 31 ∧ a.length + 100 ≤ 600 ∧ ∀ M' L' nn' V', tch s ws (fp, V 14, V 15, V 17, V 18) L = (L', nn', 9) → rA G M' B s (a ++ sv 9) L' pg ws fr V' → vPost V V' nn' → nn'.1 = fp → rfr B M M' → Post none M'
set_option maxHeartbeats 4000000 in
set_option maxRecDepth 100000 in
theorem c_Mod_doTouch (l : Launch) (G : sp_G) : sp_Met l G y_Mod_doTouch b_Mod_doTouch 3 none { frames := 3, locals := 74 } (T_Mod_doTouch G) := by
  refine sp_entry (by decide) (fun av M Post h => ?_) (fun z M av Post hz _ hT => ?_)
  · obtain ⟨B, s, a, R, L, pg, ws, fr, V, i, x, fp, rfl, -⟩ := h
    exact Nat.le_of_ble_eq_true rfl
  · obtain ⟨B, s, a, R, L, pg, ws, fr, V, i, x, fp, rfl, hS, hsr, hkd, hx, hxk, hwo, hlv, hti, hv16, ha, hp⟩ := hT
    have hlt := (List.getElem?_eq_some_iff.mp hx).1
    have b3 : R.length ≤ 48 := hS.bl.2.2.2.1
    have hin : vp_in (nI i) 48 := nI_in (by omega) (by decide)
    have ci := nI_clamp (show i < 2 ^ 31 by omega)
    have hgv := gvl_ok hlv hti
    have hfs := hsr.fd hkd hx
    rw [hxk] at hfs
    have hti0 : V 14 < 2147483647 := by omega
    refine sp_run hz _ _ e_Mod_doTouch_0 _ _ _ ?_
    simp only [k_Mod_doTouch_0, E_nil, E_iconst, E_bipush, E_sipush, E_ldc, E_ldc2, E_lconst, E_null, E_iload_n, E_lload_n, E_aload_n, E_istore_n, E_lstore_n, E_astore_n, E_astoreN_n, E_iload, E_lload, E_aload, E_istore, E_lstore, E_astore, E_astoreN, E_ldi, E_ldl, E_lda, E_ldN, E_iinc, E_iadd, E_isub, E_imul, E_iand, E_ior, E_ixor, E_ishl, E_ishr, E_idiv, E_irem, E_ineg, E_ladd, E_lsub, E_land, E_lor, E_lcmp, E_lshl, E_lshr, E_lushr, E_i2l, E_l2i, E_i2c, E_dupI, E_popI, E_dup_x1II, E_dup2II, E_dup_x1IR, E_dup2IR, E_dup_x1IN, E_dup2IN, E_dupR, E_popR, E_dup_x1RI, E_dup2RI, E_dup_x1RR, E_dup2RR, E_dup_x1RN, E_dup2RN, E_dupN, E_popN, E_dup_x1NI, E_dup2NI, E_dup_x1NR, E_dup2NR, E_dup_x1NN, E_dup2NN, E_goto, E_if_eq, E_if_ne, E_if_lt, E_if_ge, E_if_gt, E_if_le, E_ic_eq, E_ic_ne, E_ic_lt, E_ic_ge, E_ic_gt, E_ic_le, E_ifnull, E_ifnullN, E_ifnonnull, E_ifnonnullN, E_get, E_gf, E_xv, E_n0, E_ns, E_putI, E_putR, E_putN, E_pf, E_st0, E_sts, E_iaload, E_caload, E_laload, E_aaload, E_alen, E_iast, E_cast, E_last, E_xI, E_xJ, E_xQ, E_xN, E_lk, E_lkn, E_s1, E_s1h, E_s1I, E_s1R, E_s1N, E_s1L, E_s2, E_s2h, E_s2L, E_s2I, E_s2R, E_s2N, E_a1, E_a0, E_aI, E_aR, E_aN, E_aL, Option.isSome_some, eq_self, true_and, and_true, true_or, or_true, ne_eq, not_false_eq_true, not_true_eq_false, reduceIte, reduceCtorEq, Nat.reduceAdd, Nat.reduceBEq, Nat.reduceEqDiff, Option.toList_some, Option.toList_none, List.cons_append, List.nil_append]
    refine sp_callV hz (c_Mod_liveIn l G) (ci := 8) (As := [.int (nI 2)]) (rest := []) rfl w_Mod_193 (by decide) hS.o rfl (Nat.le_of_ble_eq_true rfl) d_Mod_doTouch_2 ⟨B, s, a, R, pg, ws, fr, V, 2, rfl, hS, hwo, by decide, ?_⟩ rfl
    refine sp_run hz _ _ e_Mod_doTouch_5 _ _ _ ?_
    simp only [k_Mod_doTouch_5, E_nil, E_iconst, E_bipush, E_sipush, E_ldc, E_ldc2, E_lconst, E_null, E_iload_n, E_lload_n, E_aload_n, E_istore_n, E_lstore_n, E_astore_n, E_astoreN_n, E_iload, E_lload, E_aload, E_istore, E_lstore, E_astore, E_astoreN, E_ldi, E_ldl, E_lda, E_ldN, E_iinc, E_iadd, E_isub, E_imul, E_iand, E_ior, E_ixor, E_ishl, E_ishr, E_idiv, E_irem, E_ineg, E_ladd, E_lsub, E_land, E_lor, E_lcmp, E_lshl, E_lshr, E_lushr, E_i2l, E_l2i, E_i2c, E_dupI, E_popI, E_dup_x1II, E_dup2II, E_dup_x1IR, E_dup2IR, E_dup_x1IN, E_dup2IN, E_dupR, E_popR, E_dup_x1RI, E_dup2RI, E_dup_x1RR, E_dup2RR, E_dup_x1RN, E_dup2RN, E_dupN, E_popN, E_dup_x1NI, E_dup2NI, E_dup_x1NR, E_dup2NR, E_dup_x1NN, E_dup2NN, E_goto, E_if_eq, E_if_ne, E_if_lt, E_if_ge, E_if_gt, E_if_le, E_ic_eq, E_ic_ne, E_ic_lt, E_ic_ge, E_ic_gt, E_ic_le, E_ifnull, E_ifnullN, E_ifnonnull, E_ifnonnullN, E_get, E_gf, E_xv, E_n0, E_ns, E_putI, E_putR, E_putN, E_pf, E_st0, E_sts, E_iaload, E_caload, E_laload, E_aaload, E_alen, E_iast, E_cast, E_last, E_xI, E_xJ, E_xQ, E_xN, E_lk, E_lkn, E_s1, E_s1h, E_s1I, E_s1R, E_s1N, E_s1L, E_s2, E_s2h, E_s2L, E_s2I, E_s2R, E_s2N, E_a1, E_a0, E_aI, E_aR, E_aN, E_aL, Option.isSome_some, eq_self, true_and, and_true, true_or, or_true, ne_eq, not_false_eq_true, not_true_eq_false, reduceIte, reduceCtorEq, Nat.reduceAdd, Nat.reduceBEq, Nat.reduceEqDiff, Option.toList_some, Option.toList_none, List.cons_append, List.nil_append, hS.o, rn_11]
    refine m_time hz (by decide) d_Mod_doTouch_13 (Nat.le_of_ble_eq_true rfl) 2 hlv hti hS ?_
    have hS' := hS
    obtain ⟨F, K, h0, ⟨l1, l3, l5, l21, l25⟩, ⟨t2, t4, t26, tw, ti, tp⟩, ⟨b1, b2, -, b4, b5⟩, hch, hit, hr⟩ := hS'
    have h11 : M (B 11) = some (.inl (G.2.1 1, 48, .inl (F 11))) := h0.a 11 rfl
    refine sp_run hz _ _ e_Mod_doTouch_16 _ _ _ ?_
    simp only [k_Mod_doTouch_16, E_nil, E_iconst, E_bipush, E_sipush, E_ldc, E_ldc2, E_lconst, E_null, E_iload_n, E_lload_n, E_aload_n, E_istore_n, E_lstore_n, E_astore_n, E_astoreN_n, E_iload, E_lload, E_aload, E_istore, E_lstore, E_astore, E_astoreN, E_ldi, E_ldl, E_lda, E_ldN, E_iinc, E_iadd, E_isub, E_imul, E_iand, E_ior, E_ixor, E_ishl, E_ishr, E_idiv, E_irem, E_ineg, E_ladd, E_lsub, E_land, E_lor, E_lcmp, E_lshl, E_lshr, E_lushr, E_i2l, E_l2i, E_i2c, E_dupI, E_popI, E_dup_x1II, E_dup2II, E_dup_x1IR, E_dup2IR, E_dup_x1IN, E_dup2IN, E_dupR, E_popR, E_dup_x1RI, E_dup2RI, E_dup_x1RR, E_dup2RR, E_dup_x1RN, E_dup2RN, E_dupN, E_popN, E_dup_x1NI, E_dup2NI, E_dup_x1NR, E_dup2NR, E_dup_x1NN, E_dup2NN, E_goto, E_if_eq, E_if_ne, E_if_lt, E_if_ge, E_if_gt, E_if_le, E_ic_eq, E_ic_ne, E_ic_lt, E_ic_ge, E_ic_gt, E_ic_le, E_ifnull, E_ifnullN, E_ifnonnull, E_ifnonnullN, E_get, E_gf, E_xv, E_n0, E_ns, E_putI, E_putR, E_putN, E_pf, E_st0, E_sts, E_iaload, E_caload, E_laload, E_aaload, E_alen, E_iast, E_cast, E_last, E_xI, E_xJ, E_xQ, E_xN, E_lk, E_lkn, E_s1, E_s1h, E_s1I, E_s1R, E_s1N, E_s1L, E_s2, E_s2h, E_s2L, E_s2I, E_s2R, E_s2N, E_a1, E_a0, E_aI, E_aR, E_aN, E_aL, Option.isSome_some, eq_self, true_and, and_true, true_or, or_true, ne_eq, not_false_eq_true, not_true_eq_false, reduceIte, reduceCtorEq, Nat.reduceAdd, Nat.reduceBEq, Nat.reduceEqDiff, Option.toList_some, Option.toList_none, List.cons_append, List.nil_append, h11, hin, ci]
    have hS1 : rS G (sp_u M (B 11) (.inl (G.2.1 1, 48, .inl (upd (F 11) i (nI (gz (gvl s ws 2 (V 14)))))))) B s a (R.set i ((iK x.1, iD x.1, iF x.1, iT x.1, gvl s ws 2 (V 14)), x.2)) pg ws fr V := by
      refine ⟨_, K, h0.arr (j := 11) rfl _, ⟨l1, l3, by rw [List.length_set]; exact l5, l21, l25⟩, ⟨t2, t4, t26, tw, fun j y hj => ?_, tp⟩, ⟨b1, b2, by rw [List.length_set]; exact b3, b4, b5⟩, hch, fun y hy => ?_, hr⟩
      · by_cases e : j = i
        · subst e
          rw [List.getElem?_set_self hlt] at hj
          cases hj
          obtain ⟨tk, tf, tl, tt, tg, tu, td⟩ := ti j x hx
          exact ⟨tk, tf, tl, tt, pk_us, tu, td⟩
        · rw [List.getElem?_set_ne (Ne.symm e)] at hj
          obtain ⟨tk, tf, tl, tt, tg, tu, td⟩ := ti j y hj
          exact ⟨tk, tf, tl, tt, (pk_un e).trans tg, tu, td⟩
      · rcases List.mem_or_eq_of_mem_set hy with h | h
        · exact hit y h
        · obtain ⟨w1, w2, w3, w4, w5, w6, w7, w8, w9⟩ := (hit x (List.mem_of_getElem? hx)).1
          rw [h]
          exact ⟨⟨w1, w2, w3, w4, w5, w6, w7, hgv.2, hgv.1⟩, (hit x (List.mem_of_getElem? hx)).2⟩
    have hx1 : (R.set i ((iK x.1, iD x.1, iF x.1, iT x.1, gvl s ws 2 (V 14)), x.2))[i]? = some ((iK x.1, iD x.1, iF x.1, iT x.1, gvl s ws 2 (V 14)), x.2) := List.getElem?_set_self hlt
    refine sp_callV hz (c_Mod_use l G) (ci := 8) (As := [.int (nI i)]) (rest := []) rfl w_Mod_247 (by decide) hS1.o rfl (Nat.le_of_ble_eq_true rfl) d_Mod_doTouch_19 ⟨B, s, a, _, pg, ws, fr, V, i, _, rfl, hS1, hx1, hv16, fun M2 hS2 hf2 => ?_⟩ rfl
    rw [List.set_set] at hS2
    have hf12 : rfr B M M2 := ((rfr.refl B M).u (j := 11) rfl).trans hf2
    have hsr2 := hsr.us hkd hx (iK x.1, iD x.1, iF x.1, iT x.1, gvl s ws 2 (V 14))
    have hkd2 : kd ((iK x.1, iD x.1, iF x.1, iT x.1, gvl s ws 2 (V 14)) :: rmv (iK x.1) L) := kd_cons (x := (iK x.1, iD x.1, iF x.1, iT x.1, gvl s ws 2 (V 14))) (kd_rmv hkd (iK x.1))
    have hl2 : (R.set i ((iK x.1, iD x.1, iF x.1, iT x.1, gvl s ws 2 (V 14)), V 16 + 1)).length = R.length := List.length_set
    have hx2 : (R.set i ((iK x.1, iD x.1, iF x.1, iT x.1, gvl s ws 2 (V 14)), V 16 + 1))[i]? = some ((iK x.1, iD x.1, iF x.1, iT x.1, gvl s ws 2 (V 14)), V 16 + 1) := List.getElem?_set_self hlt
    -- the end
    have fin : ∀ R3 (V3 : Nat → Nat) M3 (L0 : sp_L) L' nn', (∀ q ∈ [(0, .ref (B 0))], q ∈ L0) → rS G M3 B s a R3 pg ws fr V3 → sR R3 L' (V3 16) → kd L' → tch s ws (fp, V 14, V 15, V 17, V 18) L = (L', nn', 9) → V3 18 = nn'.2.2.2.2 → nn'.1 = fp → nn'.2.1 = V 14 → nn'.2.2.1 = V 15 → nn'.2.2.2.1 = V 17 → V3 16 ≤ V 16 + 3 → vsm V V3 [5, 16, 18] → rfr B M M3 → sp_W z G M (sp_Q z G M Post 0 0) 3 0 0 38 L0 [] M3 := by
      intro R3 V3 M3 L0 L' nn' hL0 hS3 hsr3 hkd3 htc e18 efp e14 e15 e17 e16 hvs hf3
      refine sp_Lm _ hL0 ?_
      refine sp_run hz _ _ e_Mod_doTouch_38 _ _ _ ?_
      simp only [k_Mod_doTouch_38, E_nil, E_iconst, E_bipush, E_sipush, E_ldc, E_ldc2, E_lconst, E_null, E_iload_n, E_lload_n, E_aload_n, E_istore_n, E_lstore_n, E_astore_n, E_astoreN_n, E_iload, E_lload, E_aload, E_istore, E_lstore, E_astore, E_astoreN, E_ldi, E_ldl, E_lda, E_ldN, E_iinc, E_iadd, E_isub, E_imul, E_iand, E_ior, E_ixor, E_ishl, E_ishr, E_idiv, E_irem, E_ineg, E_ladd, E_lsub, E_land, E_lor, E_lcmp, E_lshl, E_lshr, E_lushr, E_i2l, E_l2i, E_i2c, E_dupI, E_popI, E_dup_x1II, E_dup2II, E_dup_x1IR, E_dup2IR, E_dup_x1IN, E_dup2IN, E_dupR, E_popR, E_dup_x1RI, E_dup2RI, E_dup_x1RR, E_dup2RR, E_dup_x1RN, E_dup2RN, E_dupN, E_popN, E_dup_x1NI, E_dup2NI, E_dup_x1NR, E_dup2NR, E_dup_x1NN, E_dup2NN, E_goto, E_if_eq, E_if_ne, E_if_lt, E_if_ge, E_if_gt, E_if_le, E_ic_eq, E_ic_ne, E_ic_lt, E_ic_ge, E_ic_gt, E_ic_le, E_ifnull, E_ifnullN, E_ifnonnull, E_ifnonnullN, E_get, E_gf, E_xv, E_n0, E_ns, E_putI, E_putR, E_putN, E_pf, E_st0, E_sts, E_iaload, E_caload, E_laload, E_aaload, E_alen, E_iast, E_cast, E_last, E_xI, E_xJ, E_xQ, E_xN, E_lk, E_lkn, E_s1, E_s1h, E_s1I, E_s1R, E_s1N, E_s1L, E_s2, E_s2h, E_s2L, E_s2I, E_s2R, E_s2N, E_a1, E_a0, E_aI, E_aR, E_aN, E_aL, Option.isSome_some, eq_self, true_and, and_true, true_or, or_true, ne_eq, not_false_eq_true, not_true_eq_false, reduceIte, reduceCtorEq, Nat.reduceAdd, Nat.reduceBEq, Nat.reduceEqDiff, Option.toList_some, Option.toList_none, List.cons_append, List.nil_append]
      refine m_txt hz (by decide) d_Mod_doTouch_42 (Nat.le_of_ble_eq_true rfl) 23731125663319364 (sv 9) (by decide +kernel) hS3 (by omega) (fun M4 hS4 f4 => ?_)
      refine sp_vret hz d_Mod_doTouch_45 (Nat.le_refl _) (Nat.le_refl _) (hp M4 L' nn' _ htc ⟨R3, hS4, hsr3, hkd3⟩ ⟨?_, ?_, ?_, ?_, ?_, fun q hq => ?_⟩ efp (hf3.trans f4))
      · rw [up_n _ _ (by decide), hvs 14 (by decide)]; exact e14.symm
      · rw [up_n _ _ (by decide), hvs 15 (by decide)]; exact e15.symm
      · rw [up_n _ _ (by decide), hvs 17 (by decide)]; exact e17.symm
      · rw [up_n _ _ (by decide)]; exact e18
      · rw [up_n _ _ (by decide)]; exact e16
      · simp only [List.mem_cons, List.not_mem_nil, or_false, not_or] at hq
        rw [up_n _ _ hq.1]
        exact hvs q (by simp; exact ⟨hq.2.1, hq.2.2.2.1, hq.2.2.2.2.2.1⟩)
    cases hm : hmin s ws 2 with
    | true =>
      have elf : lfG s ws 2 (V 14) = V 14 := by unfold lfG; rw [if_pos hm]
      have et : tch s ws (fp, V 14, V 15, V 17, V 18) L = (rmv (wt s ws 1) L, (fp, V 14, V 15, V 17, V 18 + 1), 9) := by
        unfold tch
        rw [hfs]
        show (if V 14 < lfG s ws 2 (V 14) then _ else _) = _
        rw [elf, if_neg (Nat.lt_irrefl _)]
      refine sp_run hz _ _ e_Mod_doTouch_22 _ _ _ ?_
      simp only [k_Mod_doTouch_22, E_nil, E_iconst, E_bipush, E_sipush, E_ldc, E_ldc2, E_lconst, E_null, E_iload_n, E_lload_n, E_aload_n, E_istore_n, E_lstore_n, E_astore_n, E_astoreN_n, E_iload, E_lload, E_aload, E_istore, E_lstore, E_astore, E_astoreN, E_ldi, E_ldl, E_lda, E_ldN, E_iinc, E_iadd, E_isub, E_imul, E_iand, E_ior, E_ixor, E_ishl, E_ishr, E_idiv, E_irem, E_ineg, E_ladd, E_lsub, E_land, E_lor, E_lcmp, E_lshl, E_lshr, E_lushr, E_i2l, E_l2i, E_i2c, E_dupI, E_popI, E_dup_x1II, E_dup2II, E_dup_x1IR, E_dup2IR, E_dup_x1IN, E_dup2IN, E_dupR, E_popR, E_dup_x1RI, E_dup2RI, E_dup_x1RR, E_dup2RR, E_dup_x1RN, E_dup2RN, E_dupN, E_popN, E_dup_x1NI, E_dup2NI, E_dup_x1NR, E_dup2NR, E_dup_x1NN, E_dup2NN, E_goto, E_if_eq, E_if_ne, E_if_lt, E_if_ge, E_if_gt, E_if_le, E_ic_eq, E_ic_ne, E_ic_lt, E_ic_ge, E_ic_gt, E_ic_le, E_ifnull, E_ifnullN, E_ifnonnull, E_ifnonnullN, E_get, E_gf, E_xv, E_n0, E_ns, E_putI, E_putR, E_putN, E_pf, E_st0, E_sts, E_iaload, E_caload, E_laload, E_aaload, E_alen, E_iast, E_cast, E_last, E_xI, E_xJ, E_xQ, E_xN, E_lk, E_lkn, E_s1, E_s1h, E_s1I, E_s1R, E_s1N, E_s1L, E_s2, E_s2h, E_s2L, E_s2I, E_s2R, E_s2N, E_a1, E_a0, E_aI, E_aR, E_aN, E_aL, Option.isSome_some, eq_self, true_and, and_true, true_or, or_true, ne_eq, not_false_eq_true, not_true_eq_false, reduceIte, reduceCtorEq, Nat.reduceAdd, Nat.reduceBEq, Nat.reduceEqDiff, Option.toList_some, Option.toList_none, List.cons_append, List.nil_append]
      refine ⟨fun h => absurd (liv_m2 hlv hm) h, fun _ => ?_⟩
      refine sp_callV hz (c_Mod_endIf l G) (ci := 8) (As := [.int (nI i), .int (b2i true)]) (rest := []) rfl w_Mod_281 (by decide) hS2.o rfl (Nat.le_of_ble_eq_true rfl) d_Mod_doTouch_35 ⟨B, s, a, _, pg, ws, fr, _, i, true, rfl, hS2, by rw [hl2]; exact hlt, fun h => (by cases h), fun _ M3 hS3 hf3 => ?_⟩ rfl
      have hsr3 := hsr2.rm hkd2 hx2
      have er : rmv (iK x.1) ((iK x.1, iD x.1, iF x.1, iT x.1, gvl s ws 2 (V 14)) :: rmv (iK x.1) L) = rmv (wt s ws 1) L := by
        rw [hxk]
        show List.filter _ (_ :: _) = _
        rw [List.filter_cons_of_neg (by simp)]
        exact rmv_none fun y hy => (rmv_mem hy).2
      rw [show iK ((iK x.1, iD x.1, iF x.1, iT x.1, gvl s ws 2 (V 14)), V 16 + 1).1 = iK x.1 from rfl, er] at hsr3
      refine fin _ _ M3 _ _ _ (by simp) hS3 hsr3 (kd_rmv hkd _) et rfl rfl rfl rfl rfl (by show V 16 + 1 ≤ _; omega) (fun q hq => ?_) (hf12.trans hf3)
      simp only [List.mem_cons, List.not_mem_nil, or_false, not_or] at hq
      rw [up_n _ _ hq.2.2, up_n _ _ hq.1, up_n _ _ hq.2.1]
    | false =>
      obtain ⟨el, h9, hlt2, -, -⟩ := lfg_v hlv hti hm
      have eg : gvl s ws 2 (V 14) = lfG s ws 2 (V 14) := by unfold gvl; rw [hm, if_neg (by decide)]
      have et : tch s ws (fp, V 14, V 15, V 17, V 18) L = ((iK x.1, iD x.1, iF x.1, iT x.1, lfG s ws 2 (V 14)) :: rmv (wt s ws 1) L, (fp, V 14, V 15, V 17, V 18), 9) := by
        unfold tch
        rw [hfs]
        show (if V 14 < lfG s ws 2 (V 14) then _ else _) = _
        rw [if_pos hlt2]
      refine sp_run hz _ _ e_Mod_doTouch_22 _ _ _ ?_
      simp only [k_Mod_doTouch_22, E_nil, E_iconst, E_bipush, E_sipush, E_ldc, E_ldc2, E_lconst, E_null, E_iload_n, E_lload_n, E_aload_n, E_istore_n, E_lstore_n, E_astore_n, E_astoreN_n, E_iload, E_lload, E_aload, E_istore, E_lstore, E_astore, E_astoreN, E_ldi, E_ldl, E_lda, E_ldN, E_iinc, E_iadd, E_isub, E_imul, E_iand, E_ior, E_ixor, E_ishl, E_ishr, E_idiv, E_irem, E_ineg, E_ladd, E_lsub, E_land, E_lor, E_lcmp, E_lshl, E_lshr, E_lushr, E_i2l, E_l2i, E_i2c, E_dupI, E_popI, E_dup_x1II, E_dup2II, E_dup_x1IR, E_dup2IR, E_dup_x1IN, E_dup2IN, E_dupR, E_popR, E_dup_x1RI, E_dup2RI, E_dup_x1RR, E_dup2RR, E_dup_x1RN, E_dup2RN, E_dupN, E_popN, E_dup_x1NI, E_dup2NI, E_dup_x1NR, E_dup2NR, E_dup_x1NN, E_dup2NN, E_goto, E_if_eq, E_if_ne, E_if_lt, E_if_ge, E_if_gt, E_if_le, E_ic_eq, E_ic_ne, E_ic_lt, E_ic_ge, E_ic_gt, E_ic_le, E_ifnull, E_ifnullN, E_ifnonnull, E_ifnonnullN, E_get, E_gf, E_xv, E_n0, E_ns, E_putI, E_putR, E_putN, E_pf, E_st0, E_sts, E_iaload, E_caload, E_laload, E_aaload, E_alen, E_iast, E_cast, E_last, E_xI, E_xJ, E_xQ, E_xN, E_lk, E_lkn, E_s1, E_s1h, E_s1I, E_s1R, E_s1N, E_s1L, E_s2, E_s2h, E_s2L, E_s2I, E_s2R, E_s2N, E_a1, E_a0, E_aI, E_aR, E_aN, E_aL, Option.isSome_some, eq_self, true_and, and_true, true_or, or_true, ne_eq, not_false_eq_true, not_true_eq_false, reduceIte, reduceCtorEq, Nat.reduceAdd, Nat.reduceBEq, Nat.reduceEqDiff, Option.toList_some, Option.toList_none, List.cons_append, List.nil_append]
      refine ⟨fun _ => ?_, fun h => ?_⟩
      · refine sp_run hz _ _ e_Mod_doTouch_34 _ _ _ ?_
        simp only [k_Mod_doTouch_34, E_nil, E_iconst, E_bipush, E_sipush, E_ldc, E_ldc2, E_lconst, E_null, E_iload_n, E_lload_n, E_aload_n, E_istore_n, E_lstore_n, E_astore_n, E_astoreN_n, E_iload, E_lload, E_aload, E_istore, E_lstore, E_astore, E_astoreN, E_ldi, E_ldl, E_lda, E_ldN, E_iinc, E_iadd, E_isub, E_imul, E_iand, E_ior, E_ixor, E_ishl, E_ishr, E_idiv, E_irem, E_ineg, E_ladd, E_lsub, E_land, E_lor, E_lcmp, E_lshl, E_lshr, E_lushr, E_i2l, E_l2i, E_i2c, E_dupI, E_popI, E_dup_x1II, E_dup2II, E_dup_x1IR, E_dup2IR, E_dup_x1IN, E_dup2IN, E_dupR, E_popR, E_dup_x1RI, E_dup2RI, E_dup_x1RR, E_dup2RR, E_dup_x1RN, E_dup2RN, E_dupN, E_popN, E_dup_x1NI, E_dup2NI, E_dup_x1NR, E_dup2NR, E_dup_x1NN, E_dup2NN, E_goto, E_if_eq, E_if_ne, E_if_lt, E_if_ge, E_if_gt, E_if_le, E_ic_eq, E_ic_ne, E_ic_lt, E_ic_ge, E_ic_gt, E_ic_le, E_ifnull, E_ifnullN, E_ifnonnull, E_ifnonnullN, E_get, E_gf, E_xv, E_n0, E_ns, E_putI, E_putR, E_putN, E_pf, E_st0, E_sts, E_iaload, E_caload, E_laload, E_aaload, E_alen, E_iast, E_cast, E_last, E_xI, E_xJ, E_xQ, E_xN, E_lk, E_lkn, E_s1, E_s1h, E_s1I, E_s1R, E_s1N, E_s1L, E_s2, E_s2h, E_s2L, E_s2I, E_s2R, E_s2N, E_a1, E_a0, E_aI, E_aR, E_aN, E_aL, Option.isSome_some, eq_self, true_and, and_true, true_or, or_true, ne_eq, not_false_eq_true, not_true_eq_false, reduceIte, reduceCtorEq, Nat.reduceAdd, Nat.reduceBEq, Nat.reduceEqDiff, Option.toList_some, Option.toList_none, List.cons_append, List.nil_append]
        refine sp_callV hz (c_Mod_endIf l G) (ci := 8) (As := [.int (nI i), .int (b2i false)]) (rest := []) rfl w_Mod_281 (by decide) hS2.o rfl (Nat.le_of_ble_eq_true rfl) d_Mod_doTouch_35 ⟨B, s, a, _, pg, ws, fr, _, i, false, rfl, hS2, by rw [hl2]; exact hlt, fun _ => ?_, fun h => (by cases h)⟩ rfl
        rw [hxk, eg] at hsr2 hkd2
        rw [hxk] at et
        refine fin _ _ M2 _ _ _ (by simp) hS2 ?_ hkd2 et rfl rfl rfl rfl rfl (by show V 16 + 1 ≤ _; omega) (fun q hq => ?_) hf12
        · rw [hxk, eg]
          exact hsr2
        · simp only [List.mem_cons, List.not_mem_nil, or_false, not_or] at hq
          rw [up_n _ _ hq.2.1]
      · rw [el] at h
        have h2 := congrArg Int32.toInt h
        rw [nI_toInt (by omega)] at h2
        have h3 : ((-2 : Int32)).toInt = -2 := by decide
        omega
