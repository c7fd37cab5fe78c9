/-! The words of statics and of fields of the verbs; the verbs' code; rows for references compared, tables of goals, an inherited method. -/
theorem l_Clerk_62 : Cond.fieldLink R_Clerk 62 "SlabPantry$1" "$SwitchMap$SlabPantry$Verb" "[I" ∈ sp_TB := sp_in_e (j := 458) (by decide +kernel)
theorem l_Clerk_156 : Cond.fieldLink R_Clerk 156 "SlabPantry$Verb" "GETS" "LSlabPantry$Verb;" ∈ sp_TB := sp_in_e (j := 533) (by decide +kernel)
theorem l_Clerk_185 : Cond.fieldLink R_Clerk 185 "SlabPantry$Verb" "changesItem" "Z" ∈ sp_TB := sp_in_e (j := 1264) (by decide +kernel)
theorem l_Clerk_206 : Cond.fieldLink R_Clerk 206 "SlabPantry$Verb" "hasData" "Z" ∈ sp_TB := sp_in_e (j := 1265) (by decide +kernel)
theorem l_Command_27 : Cond.fieldLink R_Command 27 "SlabPantry$Verb" "UNKNOWN" "LSlabPantry$Verb;" ∈ sp_TB := sp_in_e (j := 177) (by decide +kernel)
theorem l_Command_53 : Cond.fieldLink R_Command 53 "SlabPantry$Command" "VERBS" "[LSlabPantry$Verb;" ∈ sp_TB := sp_in_e (j := 319) (by decide +kernel)
theorem l_Command_64 : Cond.fieldLink R_Command 64 "SlabPantry$Verb" "word" "Ljava/lang/String;" ∈ sp_TB := sp_in_e (j := 1258) (by decide +kernel)
theorem l_Command_100 : Cond.fieldLink R_Command 100 "SlabPantry$Verb" "form" "Ljava/lang/String;" ∈ sp_TB := sp_in_e (j := 1261) (by decide +kernel)
theorem l_Command_128 : Cond.fieldLink R_Command 128 "SlabPantry$Verb" "hasData" "Z" ∈ sp_TB := sp_in_e (j := 1262) (by decide +kernel)
theorem l_Verb_22 : Cond.fieldLink R_Verb 22 "SlabPantry$Verb" "GET" "LSlabPantry$Verb;" ∈ sp_TB := sp_in_e (j := 394) (by decide +kernel)
theorem l_Verb_25 : Cond.fieldLink R_Verb 25 "SlabPantry$Verb" "GETS" "LSlabPantry$Verb;" ∈ sp_TB := sp_in_e (j := 396) (by decide +kernel)
def k_Verb_takesSeveralKeys_0 : List sp_I := [(.aload_n 0, 1, 0, 0, 0, 0)]
theorem e_Verb_takesSeveralKeys_0 : sp_ok R_Verb b_Verb_takesSeveralKeys 1 k_Verb_takesSeveralKeys_0 0 = true := by decide +kernel
def k_Verb_takesSeveralKeys_7 : List sp_I := [(.aload_n 0, 1, 0, 0, 0, 0)]
theorem e_Verb_takesSeveralKeys_7 : sp_ok R_Verb b_Verb_takesSeveralKeys 1 k_Verb_takesSeveralKeys_7 7 = true := by decide +kernel
def k_Verb_takesSeveralKeys_14 : List sp_I := [(.iconst 1, 1, 0, 0, 1, 0), (.goto 4, 3, 19, 0, 0, 0)]
theorem e_Verb_takesSeveralKeys_14 : sp_ok R_Verb b_Verb_takesSeveralKeys 1 k_Verb_takesSeveralKeys_14 14 = true := by decide +kernel
def k_Verb_takesSeveralKeys_18 : List sp_I := [(.iconst 0, 1, 0, 0, 0, 0)]
theorem e_Verb_takesSeveralKeys_18 : sp_ok R_Verb b_Verb_takesSeveralKeys 1 k_Verb_takesSeveralKeys_18 18 = true := by decide +kernel
theorem d_Verb_takesSeveralKeys_1 : decode b_Verb_takesSeveralKeys 1 = .ok (.getstatic 22, 3) := by decide +kernel
theorem d_Verb_takesSeveralKeys_4 : decode b_Verb_takesSeveralKeys 4 = .ok (.if_acmp .eq 10, 3) := by decide +kernel
theorem d_Verb_takesSeveralKeys_8 : decode b_Verb_takesSeveralKeys 8 = .ok (.getstatic 25, 3) := by decide +kernel
theorem d_Verb_takesSeveralKeys_11 : decode b_Verb_takesSeveralKeys 11 = .ok (.if_acmp .ne 7, 3) := by decide +kernel
theorem d_Verb_takesSeveralKeys_19 : decode b_Verb_takesSeveralKeys 19 = .ok (.ireturn, 1) := by decide +kernel
def k_Command_firstVerb_10a : List sp_I := [(.astore_n 1, 1, 1, 0, 0, 0), (.aload_n 1, 1, 1, 0, 0, 0)]
theorem e_Command_firstVerb_10a : sp_ok R_Command b_Command_firstVerb 5 k_Command_firstVerb_10a 10 = true := by decide +kernel
theorem d_Command_firstVerb_12 : decode b_Command_firstVerb 12 = .ok (.arraylength, 1) := by decide +kernel
def k_Command_firstVerb_13 : List sp_I := [(.istore_n 2, 1, 2, 0, 0, 0), (.iconst 0, 1, 0, 0, 0, 0), (.istore_n 3, 1, 3, 0, 0, 0)]
theorem e_Command_firstVerb_13 : sp_ok R_Command b_Command_firstVerb 5 k_Command_firstVerb_13 13 = true := by decide +kernel
def k_Command_firstVerb_16a : List sp_I := [(.iload_n 3, 1, 3, 0, 0, 0), (.iload_n 2, 1, 2, 0, 0, 0), (.if_icmp .ge 42, 3, 60, 0, 0, 0), (.aload_n 1, 1, 1, 0, 0, 0), (.iload_n 3, 1, 3, 0, 0, 0)]
theorem e_Command_firstVerb_16a : sp_ok R_Command b_Command_firstVerb 5 k_Command_firstVerb_16a 16 = true := by decide +kernel
theorem d_Command_firstVerb_23 : decode b_Command_firstVerb 23 = .ok (.aaload, 1) := by decide +kernel
def k_Command_firstVerb_24 : List sp_I := [(.astore 4, 2, 4, 0, 0, 0), (.aload_n 0, 1, 0, 0, 0, 0), (.getfield 7, 3, 4, 0, 0, 179), (.aload_n 0, 1, 0, 0, 0, 0), (.iconst 0, 1, 0, 0, 0, 0)]
theorem e_Command_firstVerb_24 : sp_ok R_Command b_Command_firstVerb 5 k_Command_firstVerb_24 24 = true := by decide +kernel
section SPT
variable {z : sp_Z} {G : sp_G} {M0 M : sp_M} {Q : State → Prop} {own : String} {cc : ByteArray} {nL cs sl pc index a : Nat} {L : sp_L} {st rest : List Value} {l : Launch} {R0 : Room} {ret : Option FieldType}
theorem sp_acE (hz : sp_C z l R0 G M0 own cc nL ret) {x y : Nat} {off : Int} {tgt : Nat} (hdg : decode cc pc = .ok (.if_acmp .eq off, 3)) (ht : (pc : Int) + off = (tgt : Int)) (kt : x = y → sp_W z G M0 Q nL cs sl tgt L rest M) (kf : ¬ x = y → sp_W z G M0 Q nL cs sl (pc + 3) L rest M) : sp_W z G M0 Q nL cs sl pc L (.ref y :: .ref x :: rest) M := by
  obtain ⟨hx, hbc, -⟩ := hz
  intro H locs ls hl hP hA hS
  exact lv_acmp_eq (rx := some x) (ry := some y) hx hbc hdg ht (fun h => kt (Option.some.inj h) H locs ls hl hP hA hS) (fun h => kf (fun e => h (by rw [e])) H locs ls hl hP hA hS)
theorem sp_acN (hz : sp_C z l R0 G M0 own cc nL ret) {x y : Nat} {off : Int} {tgt : Nat} (hdg : decode cc pc = .ok (.if_acmp .ne off, 3)) (ht : (pc : Int) + off = (tgt : Int)) (kt : ¬ x = y → sp_W z G M0 Q nL cs sl tgt L rest M) (kf : x = y → sp_W z G M0 Q nL cs sl (pc + 3) L rest M) : sp_W z G M0 Q nL cs sl pc L (.ref y :: .ref x :: rest) M := by
  obtain ⟨hx, hbc, -⟩ := hz
  intro H locs ls hl hP hA hS
  exact lv_acmp_ne (rx := some x) (ry := some y) hx hbc hdg ht (fun h => kt (fun e => h (by rw [e])) H locs ls hl hP hA hS) (fun h => kf (Option.some.inj h) H locs ls hl hP hA hS)
/-- a table of goals: where the number leads -/
def sp_tg (pc : Nat) (dflt lo hi : Int) (offs : Array Int) (x : Int32) : Int := (pc : Int) + (if x.toInt < lo ∨ hi < x.toInt then dflt else (offs[(x.toInt - lo).toNat]?).getD 0)
theorem sp_tsw (hz : sp_C z l R0 G M0 own cc nL ret) {dflt lo hi : Int} {offs : Array Int} {len : Nat} {x : Int32} {tgt : Nat} (hdg : decode cc pc = .ok (.tableswitch dflt lo hi offs, len)) (hs : offs.size = (hi - lo + 1).toNat) (ht : sp_tg pc dflt lo hi offs x = (tgt : Int)) (kk : sp_W z G M0 Q nL cs sl tgt L rest M) : sp_W z G M0 Q nL cs sl pc L (.int x :: rest) M := by
  obtain ⟨hx, hbc, -⟩ := hz
  intro H locs ls hl hP hA hS
  unfold sp_tg at ht
  by_cases h : x.toInt < lo ∨ hi < x.toInt
  · rw [if_pos h] at ht
    exact lv_tableOut hx hbc hdg h ht (kk H locs ls hl hP hA hS)
  · rw [if_neg h] at ht
    have h1 : ¬ x.toInt < lo := fun q => h (Or.inl q)
    have h2 : ¬ hi < x.toInt := fun q => h (Or.inr q)
    have hlt : (x.toInt - lo).toNat < offs.size := by omega
    rw [Array.getElem?_eq_getElem hlt] at ht
    exact lv_tableIn hx hbc hdg h1 h2 (Array.getElem?_eq_getElem hlt) ht (kk H locs ls hl hP hA hS)
end SPT
def T_Enum_ordinal (G : sp_G) : sp_T := fun av M Post => ∃ v, av = [.ref (G.2.2 v)] ∧ v < 14 ∧ Post (some (.int (nI v))) M
def k_Enum_ordinal_0 : List sp_I := [(.aload_n 0, 1, 0, 0, 0, 0)]
theorem e_Enum_ordinal_0 : sp_ok R_Enum b_Enum_ordinal 1 k_Enum_ordinal_0 0 = true := by decide +kernel
theorem d_Enum_ordinal_1 : decode b_Enum_ordinal 1 = .ok (.getfield 7, 3) := by decide +kernel
theorem d_Enum_ordinal_4 : decode b_Enum_ordinal 4 = .ok (.ireturn, 1) := by decide +kernel
theorem l_Enum_7 : Cond.fieldLink R_Enum 7 "java/lang/Enum" "ordinal" "I" ∈ sp_TB := sp_in_e (j := 1263) (by decide +kernel)
set_option maxHeartbeats 4000000 in
set_option maxRecDepth 100000 in
theorem c_Enum_ordinal (l : Launch) (G : sp_G) : sp_Met l G y_Enum_ordinal b_Enum_ordinal 1 (some .int) {} (T_Enum_ordinal G) := by
  refine sp_entryF (by decide +kernel) (fun av M Post h => ?_) (fun z M av Post hz _ hT => ?_)
  · obtain ⟨v, rfl, -⟩ := h
    exact Nat.le_of_ble_eq_true rfl
  · obtain ⟨v, rfl, hv, hp⟩ := hT
    obtain ⟨a1, a2, a3, a4, a5, a6, a7⟩ := hz.E.2.1 v hv
    refine sp_run hz _ _ e_Enum_ordinal_0 _ _ _ ?_
    simp only [k_Enum_ordinal_0, E_nil, E_iconst, E_bipush, E_sipush, E_ldc, E_ldc2, E_lconst, E_null, E_iload_n, E_lload_n, E_aload_n, E_istore_n, E_lstore_n, E_astore_n, E_astoreN_n, E_iload, E_lload, E_aload, E_istore, E_lstore, E_astore, E_astoreN, E_ldi, E_ldl, E_lda, E_ldN, E_iinc, E_iadd, E_isub, E_imul, E_iand, E_ior, E_ixor, E_ishl, E_ishr, E_idiv, E_irem, E_ineg, E_ladd, E_lsub, E_land, E_lor, E_lcmp, E_lshl, E_lshr, E_lushr, E_i2l, E_l2i, E_i2c, E_dupI, E_popI, E_dup_x1II, E_dup2II, E_dup_x1IR, E_dup2IR, E_dup_x1IN, E_dup2IN, E_dupR, E_popR, E_dup_x1RI, E_dup2RI, E_dup_x1RR, E_dup2RR, E_dup_x1RN, E_dup2RN, E_dupN, E_popN, E_dup_x1NI, E_dup2NI, E_dup_x1NR, E_dup2NR, E_dup_x1NN, E_dup2NN, E_goto, E_if_eq, E_if_ne, E_if_lt, E_if_ge, E_if_gt, E_if_le, E_ic_eq, E_ic_ne, E_ic_lt, E_ic_ge, E_ic_gt, E_ic_le, E_ifnull, E_ifnullN, E_ifnonnull, E_ifnonnullN, E_get, E_gf, E_xv, E_n0, E_ns, E_putI, E_putR, E_putN, E_pf, E_st0, E_sts, E_iaload, E_caload, E_laload, E_aaload, E_alen, E_iast, E_cast, E_last, E_xI, E_xJ, E_xQ, E_xN, E_lk, E_lkn, E_s1, E_s1h, E_s1I, E_s1R, E_s1N, E_s1L, E_s2, E_s2h, E_s2L, E_s2I, E_s2R, E_s2N, E_a1, E_a0, E_aI, E_aR, E_aN, E_aL, Option.isSome_some, eq_self, true_and, and_true, true_or, or_true, ne_eq, not_false_eq_true, not_true_eq_false, reduceIte, reduceCtorEq, Nat.reduceAdd, Nat.reduceBEq, Nat.reduceEqDiff, Option.toList_some, Option.toList_none, List.cons_append, List.nil_append]
    refine sp_getO hz a3 l_Enum_7 d_Enum_ordinal_1 ?_
    exact sp_iret hz d_Enum_ordinal_4 (Nat.le_refl _) (Nat.le_refl _) hp
def T_Verb_takesSeveralKeys (G : sp_G) : sp_T := fun av M Post => ∃ v, av = [.ref (G.2.2 v)] ∧ v < 14 ∧ Post (some (.int (b2i (decide (v = 6 ∨ v = 7))))) M
set_option maxHeartbeats 4000000 in
set_option maxRecDepth 100000 in
theorem c_Verb_takesSeveralKeys (l : Launch) (G : sp_G) : sp_Met l G y_Verb_takesSeveralKeys b_Verb_takesSeveralKeys 1 (some .boolean) {} (T_Verb_takesSeveralKeys G) := by
  refine sp_entry (by decide) (fun av M Post h => ?_) (fun z M av Post hz _ hT => ?_)
  · obtain ⟨v, rfl, -⟩ := h
    exact Nat.le_of_ble_eq_true rfl
  · obtain ⟨v, rfl, hv, hp⟩ := hT
    have inj := hz.E.2.2.1
    have yes : (v = 6 ∨ v = 7) → ∀ L : sp_L, sp_W z G M (sp_Q z G M Post 0 0) 1 0 0 14 L [] M := by
      intro h L
      rw [decide_eq_true h] at hp
      refine sp_run hz _ _ e_Verb_takesSeveralKeys_14 _ _ _ ?_
      simp only [k_Verb_takesSeveralKeys_14, E_nil, E_iconst, E_bipush, E_sipush, E_ldc, E_ldc2, E_lconst, E_null, E_iload_n, E_lload_n, E_aload_n, E_istore_n, E_lstore_n, E_astore_n, E_astoreN_n, E_iload, E_lload, E_aload, E_istore, E_lstore, E_astore, E_astoreN, E_ldi, E_ldl, E_lda, E_ldN, E_iinc, E_iadd, E_isub, E_imul, E_iand, E_ior, E_ixor, E_ishl, E_ishr, E_idiv, E_irem, E_ineg, E_ladd, E_lsub, E_land, E_lor, E_lcmp, E_lshl, E_lshr, E_lushr, E_i2l, E_l2i, E_i2c, E_dupI, E_popI, E_dup_x1II, E_dup2II, E_dup_x1IR, E_dup2IR, E_dup_x1IN, E_dup2IN, E_dupR, E_popR, E_dup_x1RI, E_dup2RI, E_dup_x1RR, E_dup2RR, E_dup_x1RN, E_dup2RN, E_dupN, E_popN, E_dup_x1NI, E_dup2NI, E_dup_x1NR, E_dup2NR, E_dup_x1NN, E_dup2NN, E_goto, E_if_eq, E_if_ne, E_if_lt, E_if_ge, E_if_gt, E_if_le, E_ic_eq, E_ic_ne, E_ic_lt, E_ic_ge, E_ic_gt, E_ic_le, E_ifnull, E_ifnullN, E_ifnonnull, E_ifnonnullN, E_get, E_gf, E_xv, E_n0, E_ns, E_putI, E_putR, E_putN, E_pf, E_st0, E_sts, E_iaload, E_caload, E_laload, E_aaload, E_alen, E_iast, E_cast, E_last, E_xI, E_xJ, E_xQ, E_xN, E_lk, E_lkn, E_s1, E_s1h, E_s1I, E_s1R, E_s1N, E_s1L, E_s2, E_s2h, E_s2L, E_s2I, E_s2R, E_s2N, E_a1, E_a0, E_aI, E_aR, E_aN, E_aL, Option.isSome_some, eq_self, true_and, and_true, true_or, or_true, ne_eq, not_false_eq_true, not_true_eq_false, reduceIte, reduceCtorEq, Nat.reduceAdd, Nat.reduceBEq, Nat.reduceEqDiff, Option.toList_some, Option.toList_none, List.cons_append, List.nil_append]
      exact sp_zret hz d_Verb_takesSeveralKeys_19 rfl (Nat.le_refl _) (Nat.le_refl _) hp
    refine sp_run hz _ _ e_Verb_takesSeveralKeys_0 _ _ _ ?_
    simp only [k_Verb_takesSeveralKeys_0, E_nil, E_iconst, E_bipush, E_sipush, E_ldc, E_ldc2, E_lconst, E_null, E_iload_n, E_lload_n, E_aload_n, E_istore_n, E_lstore_n, E_astore_n, E_astoreN_n, E_iload, E_lload, E_aload, E_istore, E_lstore, E_astore, E_astoreN, E_ldi, E_ldl, E_lda, E_ldN, E_iinc, E_iadd, E_isub, E_imul, E_iand, E_ior, E_ixor, E_ishl, E_ishr, E_idiv, E_irem, E_ineg, E_ladd, E_lsub, E_land, E_lor, E_lcmp, E_lshl, E_lshr, E_lushr, E_i2l, E_l2i, E_i2c, E_dupI, E_popI, E_dup_x1II, E_dup2II, E_dup_x1IR, E_dup2IR, E_dup_x1IN, E_dup2IN, E_dupR, E_popR, E_dup_x1RI, E_dup2RI, E_dup_x1RR, E_dup2RR, E_dup_x1RN, E_dup2RN, E_dupN, E_popN, E_dup_x1NI, E_dup2NI, E_dup_x1NR, E_dup2NR, E_dup_x1NN, E_dup2NN, E_goto, E_if_eq, E_if_ne, E_if_lt, E_if_ge, E_if_gt, E_if_le, E_ic_eq, E_ic_ne, E_ic_lt, E_ic_ge, E_ic_gt, E_ic_le, E_ifnull, E_ifnullN, E_ifnonnull, E_ifnonnullN, E_get, E_gf, E_xv, E_n0, E_ns, E_putI, E_putR, E_putN, E_pf, E_st0, E_sts, E_iaload, E_caload, E_laload, E_aaload, E_alen, E_iast, E_cast, E_last, E_xI, E_xJ, E_xQ, E_xN, E_lk, E_lkn, E_s1, E_s1h, E_s1I, E_s1R, E_s1N, E_s1L, E_s2, E_s2h, E_s2L, E_s2I, E_s2R, E_s2N, E_a1, E_a0, E_aI, E_aR, E_aN, E_aL, Option.isSome_some, eq_self, true_and, and_true, true_or, or_true, ne_eq, not_false_eq_true, not_true_eq_false, reduceIte, reduceCtorEq, Nat.reduceAdd, Nat.reduceBEq, Nat.reduceEqDiff, Option.toList_some, Option.toList_none, List.cons_append, List.nil_append]
    refine sp_gets hz (hz.E.2.1 6 (by decide)).1 l_Verb_22 d_Verb_takesSeveralKeys_1 ?_
    refine sp_acE hz (tgt := 14) d_Verb_takesSeveralKeys_4 (by decide) (fun h => yes (Or.inl (inj v 6 hv (by decide) h)) _) (fun h6 => ?_)
    refine sp_run hz _ _ e_Verb_takesSeveralKeys_7 _ _ _ ?_
    simp only [k_Verb_takesSeveralKeys_7, E_nil, E_iconst, E_bipush, E_sipush, E_ldc, E_ldc2, E_lconst, E_null, E_iload_n, E_lload_n, E_aload_n, E_istore_n, E_lstore_n, E_astore_n, E_astoreN_n, E_iload, E_lload, E_aload, E_istore, E_lstore, E_astore, E_astoreN, E_ldi, E_ldl, E_lda, E_ldN, E_iinc, E_iadd, E_isub, E_imul, E_iand, E_ior, E_ixor, E_ishl, E_ishr, E_idiv, E_irem, E_ineg, E_ladd, E_lsub, E_land, E_lor, E_lcmp, E_lshl, E_lshr, E_lushr, E_i2l, E_l2i, E_i2c, E_dupI, E_popI, E_dup_x1II, E_dup2II, E_dup_x1IR, E_dup2IR, E_dup_x1IN, E_dup2IN, E_dupR, E_popR, E_dup_x1RI, E_dup2RI, E_dup_x1RR, E_dup2RR, E_dup_x1RN, E_dup2RN, E_dupN, E_popN, E_dup_x1NI, E_dup2NI, E_dup_x1NR, E_dup2NR, E_dup_x1NN, E_dup2NN, E_goto, E_if_eq, E_if_ne, E_if_lt, E_if_ge, E_if_gt, E_if_le, E_ic_eq, E_ic_ne, E_ic_lt, E_ic_ge, E_ic_gt, E_ic_le, E_ifnull, E_ifnullN, E_ifnonnull, E_ifnonnullN, E_get, E_gf, E_xv, E_n0, E_ns, E_putI, E_putR, E_putN, E_pf, E_st0, E_sts, E_iaload, E_caload, E_laload, E_aaload, E_alen, E_iast, E_cast, E_last, E_xI, E_xJ, E_xQ, E_xN, E_lk, E_lkn, E_s1, E_s1h, E_s1I, E_s1R, E_s1N, E_s1L, E_s2, E_s2h, E_s2L, E_s2I, E_s2R, E_s2N, E_a1, E_a0, E_aI, E_aR, E_aN, E_aL, Option.isSome_some, eq_self, true_and, and_true, true_or, or_true, ne_eq, not_false_eq_true, not_true_eq_false, reduceIte, reduceCtorEq, Nat.reduceAdd, Nat.reduceBEq, Nat.reduceEqDiff, Option.toList_some, Option.toList_none, List.cons_append, List.nil_append]
    refine sp_gets hz (hz.E.2.1 7 (by decide)).1 l_Verb_25 d_Verb_takesSeveralKeys_8 ?_
    refine sp_acN hz (tgt := 18) d_Verb_takesSeveralKeys_11 (by decide) (fun h7 => ?_) (fun h => yes (Or.inr (inj v 7 hv (by decide) h)) _)
    rw [decide_eq_false (fun h => h.elim (fun e => h6 (by rw [e])) (fun e => h7 (by rw [e])))] at hp
    refine sp_run hz _ _ e_Verb_takesSeveralKeys_18 _ _ _ ?_
    simp only [k_Verb_takesSeveralKeys_18, E_nil, E_iconst, E_bipush, E_sipush, E_ldc, E_ldc2, E_lconst, E_null, E_iload_n, E_lload_n, E_aload_n, E_istore_n, E_lstore_n, E_astore_n, E_astoreN_n, E_iload, E_lload, E_aload, E_istore, E_lstore, E_astore, E_astoreN, E_ldi, E_ldl, E_lda, E_ldN, E_iinc, E_iadd, E_isub, E_imul, E_iand, E_ior, E_ixor, E_ishl, E_ishr, E_idiv, E_irem, E_ineg, E_ladd, E_lsub, E_land, E_lor, E_lcmp, E_lshl, E_lshr, E_lushr, E_i2l, E_l2i, E_i2c, E_dupI, E_popI, E_dup_x1II, E_dup2II, E_dup_x1IR, E_dup2IR, E_dup_x1IN, E_dup2IN, E_dupR, E_popR, E_dup_x1RI, E_dup2RI, E_dup_x1RR, E_dup2RR, E_dup_x1RN, E_dup2RN, E_dupN, E_popN, E_dup_x1NI, E_dup2NI, E_dup_x1NR, E_dup2NR, E_dup_x1NN, E_dup2NN, E_goto, E_if_eq, E_if_ne, E_if_lt, E_if_ge, E_if_gt, E_if_le, E_ic_eq, E_ic_ne, E_ic_lt, E_ic_ge, E_ic_gt, E_ic_le, E_ifnull, E_ifnullN, E_ifnonnull, E_ifnonnullN, E_get, E_gf, E_xv, E_n0, E_ns, E_putI, E_putR, E_putN, E_pf, E_st0, E_sts, E_iaload, E_caload, E_laload, E_aaload, E_alen, E_iast, E_cast, E_last, E_xI, E_xJ, E_xQ, E_xN, E_lk, E_lkn, E_s1, E_s1h, E_s1I, E_s1R, E_s1N, E_s1L, E_s2, E_s2h, E_s2L, E_s2I, E_s2R, E_s2N, E_a1, E_a0, E_aI, E_aR, E_aN, E_aL, Option.isSome_some, eq_self, true_and, and_true, true_or, or_true, ne_eq, not_false_eq_true, not_true_eq_false, reduceIte, reduceCtorEq, Nat.reduceAdd, Nat.reduceBEq, Nat.reduceEqDiff, Option.toList_some, Option.toList_none, List.cons_append, List.nil_append]
    exact sp_zret hz d_Verb_takesSeveralKeys_19 rfl (Nat.le_refl _) (Nat.le_refl _) hp
