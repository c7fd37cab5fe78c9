/-! The law's loop: the calls that may throw, the switch, the loop. -/
theorem nI_j {a b : Nat} (ha : a < 2 ^ 31) (hb : b < 2 ^ 31) (h : nI a = nI b) : a = b := (nI_eq ha hb).mp h
theorem bd_ex {v : Int32} {n len : Nat} (hl : len ≤ 2000000) (hn : n < len) (hv : v = nI n) : ¬ (v < 0 ∨ ∃ m, m < 2 ^ 31 ∧ v = nI m ∧ len ≤ m) := by
  intro h
  rcases h with h | ⟨m, hm, h1, h2⟩
  · rw [hv] at h
    exact nI_pos (by omega) h
  · have := nI_j (by omega) hm (hv.symm.trans h1)
    omega
theorem bd_no {v : Int32} {len : Nat} (h : ¬ (v < 0 ∨ ∃ m, m < 2 ^ 31 ∧ v = nI m ∧ len ≤ m)) : ∃ n, n < len ∧ n < 2 ^ 31 ∧ v = nI n := by
  obtain ⟨n, h31, e⟩ := (i_split v).resolve_left (fun q => h (Or.inl q))
  exact ⟨n, Nat.not_le.mp fun q => h (Or.inr ⟨n, h31, e, q⟩), h31, e⟩
section LL
variable {z : sp_Z} {l : Launch} {G : sp_G} {M0 M : sp_M} {Q : State → Prop} {rt : Option FieldType} {b Ln k o cs sl pc : Nat} {xs : Nat → Int32} {A W B : Nat → Nat} {S : AS} {ws : List (Nat × Nat)} {fr : List Nat} {V : Nat → Nat} {L : sp_L} {rest : List Value}
theorem jS.ob (hj : jS G M A W B o S ws fr V k) {M2 : sp_M} (hf : rfr B M M2) : M2 o = M o := by
  obtain ⟨-, -, -, -, -, -, hob, -⟩ := hj
  exact hf o hob
/-- reply -/
theorem l_c3 (hz : sp_C z l room_1 G M0 R_Law b_Law_law 7 rt) (htr : l.stackTraces = false) (hT : lTs z M0 b Ln xs) (h3 : 3 * k + 3 ≤ Ln) (hK : lH z G M0 Q b (k + 1)) (hj : jS G M A W B o S ws fr V k) : sp_W z G M0 Q 7 (100 + 30 * k) (10000 + 200 * k) 167 (lLo b o A B k) [] M := by
  have hC := hj.c
  have hLn := hT.2
  have h65 : ∀ c ∈ sA S, c < 65536 := hC.ans.2.2.2.1
  have h300 : (sA S).length ≤ 300 := hC.ans.2.1
  generalize hvv : xs (3 * k + 1) = v
  have go : ∀ (M1 : sp_M) (t : Nat), jS G M1 A W B o S ws fr V k → ((t = 1 ∧ (v < 0 ∨ ∃ n, n < 2 ^ 31 ∧ v = nI n ∧ (sA S).length ≤ n)) ∨ (t = 0 ∧ ∃ n, n < (sA S).length ∧ v = nI n ∧ ∀ f, M1 o = some (.inl (G.2.1 2, 1, .inr (.inl f))) → f 0 = lN ((sA S).getD n 0))) → sp_W z G M0 Q 7 (100 + 30 * k + 1) (10000 + 200 * k + 6) 178 (lLo b o A B k) [.int (nI t)] M1 := by
    intro M1 t hj1 hcase
    obtain ⟨R, hS1, hsr, hkd⟩ := hj1.m
    refine sp_run hz _ _ e_Law_law_178 _ _ _ ?_
    simp only [k_Law_law_178, lLo, E_nil, E_iconst, E_bipush, E_sipush, E_ldc, E_ldc2, E_lconst, E_null, E_iload_n, E_lload_n, E_aload_n, E_istore_n, E_lstore_n, E_astore_n, E_astoreN_n, E_iload, E_lload, E_aload, E_istore, E_lstore, E_astore, E_astoreN, E_ldi, E_ldl, E_lda, E_ldN, E_iinc, E_iadd, E_isub, E_imul, E_iand, E_ior, E_ixor, E_ishl, E_ishr, E_idiv, E_irem, E_ineg, E_ladd, E_lsub, E_land, E_lor, E_lcmp, E_lshl, E_lshr, E_lushr, E_i2l, E_l2i, E_i2c, E_dupI, E_popI, E_dup_x1II, E_dup2II, E_dup_x1IR, E_dup2IR, E_dup_x1IN, E_dup2IN, E_dupR, E_popR, E_dup_x1RI, E_dup2RI, E_dup_x1RR, E_dup2RR, E_dup_x1RN, E_dup2RN, E_dupN, E_popN, E_dup_x1NI, E_dup2NI, E_dup_x1NR, E_dup2NR, E_dup_x1NN, E_dup2NN, E_goto, E_if_eq, E_if_ne, E_if_lt, E_if_ge, E_if_gt, E_if_le, E_ic_eq, E_ic_ne, E_ic_lt, E_ic_ge, E_ic_gt, E_ic_le, E_ifnull, E_ifnullN, E_ifnonnull, E_ifnonnullN, E_get, E_gf, E_xv, E_n0, E_ns, E_putI, E_putR, E_putN, E_pf, E_st0, E_sts, E_iaload, E_caload, E_laload, E_aaload, E_alen, E_iast, E_cast, E_last, E_xI, E_xJ, E_xQ, E_xN, E_lk, E_lkn, E_s1, E_s1h, E_s1I, E_s1R, E_s1N, E_s1L, E_s2, E_s2h, E_s2L, E_s2I, E_s2R, E_s2N, E_a1, E_a0, E_aI, E_aR, E_aN, E_aL, Option.isSome_some, eq_self, true_and, and_true, true_or, or_true, ne_eq, not_false_eq_true, not_true_eq_false, reduceIte, reduceCtorEq, Nat.reduceAdd, Nat.reduceBEq, Nat.reduceEqDiff, Option.toList_some, Option.toList_none, List.cons_append, List.nil_append, i_1]
    refine l_sc hz hT (by omega) d_Law_law_186 ?_
    rw [hvv]
    refine sp_callV hz (c_Mod_reply l G) (ci := 8) (As := [.int v]) (rest := []) rfl w_Law_57 (l_rm (by decide) (by decide) (by show 100 + 30 * k + 1 + 0 ≤ _; omega) (by show 10000 + 200 * k + 6 + 0 ≤ _; omega)) hS1.o rfl (Nat.le_of_ble_eq_true rfl) d_Law_law_187 ⟨B, _, _, R, _, _, _, V, v, rfl, hS1, h65, fun hb M2 hS2 hf2 => ?_, fun n hn hv h6 M2 hS2 hf2 => ?_⟩ rfl
    · rcases hcase with ⟨rfl, -⟩ | ⟨-, n, hn, hv, -⟩
      · exact l_f190 hz (by omega) hK (t := 1) (by decide) (hj1.v hf2 ⟨R, hS2, hsr, hkd⟩) (fun h => absurd h (by decide)) (by show 100 + 30 * k + 1 + 0 ≤ _; omega) (by show 10000 + 200 * k + 6 + 0 ≤ _; omega) (fun q hq => hq)
      · exact absurd hb (bd_ex (by omega) hn hv)
    · rcases hcase with ⟨-, hb⟩ | ⟨rfl, n', hn', hv', hf'⟩
      · exact absurd hb (bd_ex (by omega) hn hv)
      · have e : n = n' := nI_j (by omega) (by omega) (hv.symm.trans hv')
        subst e
        exact l_f190 hz (by omega) hK (t := 0) (by decide) (hj1.v hf2 ⟨R, hS2, hsr, hkd⟩) (fun _ f hf => by rw [hj1.ob hf2] at hf; rw [hf' f hf, nI_l (by omega)]) (by show 100 + 30 * k + 1 + 0 ≤ _; omega) (by show 10000 + 200 * k + 6 + 0 ≤ _; omega) (fun q hq => hq)
  refine sp_run hz _ _ e_Law_law_167 _ _ _ ?_
  simp only [k_Law_law_167, lLo, E_nil, E_iconst, E_bipush, E_sipush, E_ldc, E_ldc2, E_lconst, E_null, E_iload_n, E_lload_n, E_aload_n, E_istore_n, E_lstore_n, E_astore_n, E_astoreN_n, E_iload, E_lload, E_aload, E_istore, E_lstore, E_astore, E_astoreN, E_ldi, E_ldl, E_lda, E_ldN, E_iinc, E_iadd, E_isub, E_imul, E_iand, E_ior, E_ixor, E_ishl, E_ishr, E_idiv, E_irem, E_ineg, E_ladd, E_lsub, E_land, E_lor, E_lcmp, E_lshl, E_lshr, E_lushr, E_i2l, E_l2i, E_i2c, E_dupI, E_popI, E_dup_x1II, E_dup2II, E_dup_x1IR, E_dup2IR, E_dup_x1IN, E_dup2IN, E_dupR, E_popR, E_dup_x1RI, E_dup2RI, E_dup_x1RR, E_dup2RR, E_dup_x1RN, E_dup2RN, E_dupN, E_popN, E_dup_x1NI, E_dup2NI, E_dup_x1NR, E_dup2NR, E_dup_x1NN, E_dup2NN, E_goto, E_if_eq, E_if_ne, E_if_lt, E_if_ge, E_if_gt, E_if_le, E_ic_eq, E_ic_ne, E_ic_lt, E_ic_ge, E_ic_gt, E_ic_le, E_ifnull, E_ifnullN, E_ifnonnull, E_ifnonnullN, E_get, E_gf, E_xv, E_n0, E_ns, E_putI, E_putR, E_putN, E_pf, E_st0, E_sts, E_iaload, E_caload, E_laload, E_aaload, E_alen, E_iast, E_cast, E_last, E_xI, E_xJ, E_xQ, E_xN, E_lk, E_lkn, E_s1, E_s1h, E_s1I, E_s1R, E_s1N, E_s1L, E_s2, E_s2h, E_s2L, E_s2I, E_s2R, E_s2N, E_a1, E_a0, E_aI, E_aR, E_aN, E_aL, Option.isSome_some, eq_self, true_and, and_true, true_or, or_true, ne_eq, not_false_eq_true, not_true_eq_false, reduceIte, reduceCtorEq, Nat.reduceAdd, Nat.reduceBEq, Nat.reduceEqDiff, Option.toList_some, Option.toList_none, List.cons_append, List.nil_append, i_1]
  refine l_sc hz hT (by omega) d_Law_law_173 ?_
  rw [hvv]
  refine sp_run hz _ _ e_Law_law_174 _ _ _ ?_
  simp only [k_Law_law_174, E_nil, E_iconst, E_bipush, E_sipush, E_ldc, E_ldc2, E_lconst, E_null, E_iload_n, E_lload_n, E_aload_n, E_istore_n, E_lstore_n, E_astore_n, E_astoreN_n, E_iload, E_lload, E_aload, E_istore, E_lstore, E_astore, E_astoreN, E_ldi, E_ldl, E_lda, E_ldN, E_iinc, E_iadd, E_isub, E_imul, E_iand, E_ior, E_ixor, E_ishl, E_ishr, E_idiv, E_irem, E_ineg, E_ladd, E_lsub, E_land, E_lor, E_lcmp, E_lshl, E_lshr, E_lushr, E_i2l, E_l2i, E_i2c, E_dupI, E_popI, E_dup_x1II, E_dup2II, E_dup_x1IR, E_dup2IR, E_dup_x1IN, E_dup2IN, E_dupR, E_popR, E_dup_x1RI, E_dup2RI, E_dup_x1RR, E_dup2RR, E_dup_x1RN, E_dup2RN, E_dupN, E_popN, E_dup_x1NI, E_dup2NI, E_dup_x1NR, E_dup2NR, E_dup_x1NN, E_dup2NN, E_goto, E_if_eq, E_if_ne, E_if_lt, E_if_ge, E_if_gt, E_if_le, E_ic_eq, E_ic_ne, E_ic_lt, E_ic_ge, E_ic_gt, E_ic_le, E_ifnull, E_ifnullN, E_ifnonnull, E_ifnonnullN, E_get, E_gf, E_xv, E_n0, E_ns, E_putI, E_putR, E_putN, E_pf, E_st0, E_sts, E_iaload, E_caload, E_laload, E_aaload, E_alen, E_iast, E_cast, E_last, E_xI, E_xJ, E_xQ, E_xN, E_lk, E_lkn, E_s1, E_s1h, E_s1I, E_s1R, E_s1N, E_s1L, E_s2, E_s2h, E_s2L, E_s2I, E_s2R, E_s2N, E_a1, E_a0, E_aI, E_aR, E_aN, E_aL, Option.isSome_some, eq_self, true_and, and_true, true_or, or_true, ne_eq, not_false_eq_true, not_true_eq_false, reduceIte, reduceCtorEq, Nat.reduceAdd, Nat.reduceBEq, Nat.reduceEqDiff, Option.toList_some, Option.toList_none, List.cons_append, List.nil_append]
  refine sp_callSW hz (c_Law_reply l htr G) (As := [.ref (A 15), .int v, .ref o]) (rest := []) w_Law_52 (l_rm (by decide) (by decide) (by show 100 + 30 * k + 1 ≤ _; omega) (by show 10000 + 200 * k + 6 ≤ _; omega)) rfl (Nat.le_of_ble_eq_true rfl) d_Law_law_175 ⟨A, W, S, v, o, rfl, hC, hj.2.2.2.2.1, fun hb => ?_, fun n hn hv f hf => ?_⟩ rfl
  · exact go M 1 hj (Or.inl ⟨rfl, hb⟩)
  · exact go _ 0 (hj.ao f) (Or.inr ⟨rfl, n, hn, hv, fun f' hf' => by rw [sp_u_s] at hf'; cases hf'; exact hf⟩)
/-- tick -/
theorem l_c4 (hz : sp_C z l room_1 G M0 R_Law b_Law_law 7 rt) (htr : l.stackTraces = false) (hT : lTs z M0 b Ln xs) (h3 : 3 * k + 3 ≤ Ln) (hK : lH z G M0 Q b (k + 1)) (hj : jS G M A W B o S ws fr V k) : sp_W z G M0 Q 7 (100 + 30 * k) (10000 + 200 * k) 223 (lLo b o A B k) [] M := by
  have hC := hj.c
  have hLn := hT.2
  obtain ⟨-, -, hv0, -, -, -, -, hti, ht, htk, hck⟩ := id hj
  have h30 : ∀ n, n ≤ 1000000 → (sN S).2.1 + n < 2 ^ 30 := fun n hn => Nat.lt_of_le_of_lt (t_add ht hn) (Nat.lt_of_le_of_lt (Nat.mul_le_mul_right 1000000 (show k + 1 ≤ 512 by omega)) (by decide))
  generalize hvv : xs (3 * k + 1) = v
  have v14 : V 14 = (sN S).2.1 := hv0.1
  have go : ∀ (M1 : sp_M) (t : Nat) (S1 : AS), ffr M M1 W W → cS G M1 A W S1 → ((t = 1 ∧ S1 = S ∧ M1 = M ∧ (v < 0 ∨ ∃ n, n < 2 ^ 31 ∧ v = nI n ∧ 1000001 ≤ n)) ∨ (t = 0 ∧ ∃ n, n ≤ 1000000 ∧ v = nI n ∧ S1 = ticS n S)) → sp_W z G M0 Q 7 (100 + 30 * k + 1) (10000 + 200 * k + 6) 233 (lLo b o A B k) [.int (nI t)] M1 := by
    intro M1 t S1 hf1 hC1 hcase
    obtain ⟨hm1, -⟩ := hj.ac hf1
    refine sp_run hz _ _ e_Law_law_233 _ _ _ ?_
    simp only [k_Law_law_233, lLo, E_nil, E_iconst, E_bipush, E_sipush, E_ldc, E_ldc2, E_lconst, E_null, E_iload_n, E_lload_n, E_aload_n, E_istore_n, E_lstore_n, E_astore_n, E_astoreN_n, E_iload, E_lload, E_aload, E_istore, E_lstore, E_astore, E_astoreN, E_ldi, E_ldl, E_lda, E_ldN, E_iinc, E_iadd, E_isub, E_imul, E_iand, E_ior, E_ixor, E_ishl, E_ishr, E_idiv, E_irem, E_ineg, E_ladd, E_lsub, E_land, E_lor, E_lcmp, E_lshl, E_lshr, E_lushr, E_i2l, E_l2i, E_i2c, E_dupI, E_popI, E_dup_x1II, E_dup2II, E_dup_x1IR, E_dup2IR, E_dup_x1IN, E_dup2IN, E_dupR, E_popR, E_dup_x1RI, E_dup2RI, E_dup_x1RR, E_dup2RR, E_dup_x1RN, E_dup2RN, E_dupN, E_popN, E_dup_x1NI, E_dup2NI, E_dup_x1NR, E_dup2NR, E_dup_x1NN, E_dup2NN, E_goto, E_if_eq, E_if_ne, E_if_lt, E_if_ge, E_if_gt, E_if_le, E_ic_eq, E_ic_ne, E_ic_lt, E_ic_ge, E_ic_gt, E_ic_le, E_ifnull, E_ifnullN, E_ifnonnull, E_ifnonnullN, E_get, E_gf, E_xv, E_n0, E_ns, E_putI, E_putR, E_putN, E_pf, E_st0, E_sts, E_iaload, E_caload, E_laload, E_aaload, E_alen, E_iast, E_cast, E_last, E_xI, E_xJ, E_xQ, E_xN, E_lk, E_lkn, E_s1, E_s1h, E_s1I, E_s1R, E_s1N, E_s1L, E_s2, E_s2h, E_s2L, E_s2I, E_s2R, E_s2N, E_a1, E_a0, E_aI, E_aR, E_aN, E_aL, Option.isSome_some, eq_self, true_and, and_true, true_or, or_true, ne_eq, not_false_eq_true, not_true_eq_false, reduceIte, reduceCtorEq, Nat.reduceAdd, Nat.reduceBEq, Nat.reduceEqDiff, Option.toList_some, Option.toList_none, List.cons_append, List.nil_append, i_1]
    refine l_sc hz hT (by omega) d_Law_law_241 ?_
    rw [hvv]
    refine sp_callV hz (c_Mod_tick l G) (ci := 8) (As := [.int v]) (rest := []) rfl w_Law_64 (l_rm (by decide) (by decide) (by show 100 + 30 * k + 1 + 0 ≤ _; omega) (by show 10000 + 200 * k + 6 + 0 ≤ _; omega)) hm1.o rfl (Nat.le_of_ble_eq_true rfl) d_Law_law_242 ⟨B, _, _, _, _, _, _, V, v, rfl, hm1, fun hb M2 hm2 hf2 => ?_, fun n hn hv => ⟨?_, fun M2 V2 hm2 v0 v142 v18 hvs hf2 => ?_⟩⟩ rfl
    · rcases hcase with ⟨rfl, rfl, rfl, -⟩ | ⟨-, n, hn, hv, -⟩
      · exact l_f245 hz (by omega) hK (t := 1) (hj.v hf2 hm2) (up_s _ _ _) (by show 100 + 30 * k + 1 + 0 ≤ _; omega) (by show 10000 + 200 * k + 6 + 0 ≤ _; omega) (fun q hq => hq)
      · exact absurd hb (bd_ex (len := 1000001) (by decide) (Nat.lt_succ_of_le hn) hv)
    · rw [v14]
      exact h30 n hn
    · rcases hcase with ⟨-, -, -, hb⟩ | ⟨rfl, n', hn', hv', rfl⟩
      · exact absurd hb (bd_ex (len := 1000001) (by decide) (Nat.lt_succ_of_le hn) hv)
      · have e : n = n' := nI_j (Nat.lt_of_le_of_lt hn (by decide)) (Nat.lt_of_le_of_lt hn' (by decide)) (hv.symm.trans hv')
        subst e
        rw [v14] at hm2 v142 v18
        obtain ⟨a1, a2, a3, a4, a5, a6⟩ := hv0
        have hv2 : vOK V2 (ticS n S) := ⟨v142, (hvs 15 (by decide)).trans a2, (hvs 17 (by decide)).trans a3, v18.trans (by rw [a4]; rfl), (hvs 19 (by decide)).trans a5, (hvs 20 (by decide)).trans a6⟩
        have h16 : V2 16 ≤ 3 * (k + 1) := by rw [hvs 16 (by decide)]; omega
        exact l_f245 hz (by omega) hK (t := 0) (hj.nx hf1 hC1 hf2 hm2 hv2 (fun x hx => of_decide_eq_true (List.mem_filter.mp hx).2) (t_add ht hn) (Nat.le_succ_of_le htk) h16) v0 (by show 100 + 30 * k + 1 + 0 ≤ _; omega) (by show 10000 + 200 * k + 6 + 0 ≤ _; omega) (fun q hq => hq)
  refine sp_run hz _ _ e_Law_law_223 _ _ _ ?_
  simp only [k_Law_law_223, lLo, E_nil, E_iconst, E_bipush, E_sipush, E_ldc, E_ldc2, E_lconst, E_null, E_iload_n, E_lload_n, E_aload_n, E_istore_n, E_lstore_n, E_astore_n, E_astoreN_n, E_iload, E_lload, E_aload, E_istore, E_lstore, E_astore, E_astoreN, E_ldi, E_ldl, E_lda, E_ldN, E_iinc, E_iadd, E_isub, E_imul, E_iand, E_ior, E_ixor, E_ishl, E_ishr, E_idiv, E_irem, E_ineg, E_ladd, E_lsub, E_land, E_lor, E_lcmp, E_lshl, E_lshr, E_lushr, E_i2l, E_l2i, E_i2c, E_dupI, E_popI, E_dup_x1II, E_dup2II, E_dup_x1IR, E_dup2IR, E_dup_x1IN, E_dup2IN, E_dupR, E_popR, E_dup_x1RI, E_dup2RI, E_dup_x1RR, E_dup2RR, E_dup_x1RN, E_dup2RN, E_dupN, E_popN, E_dup_x1NI, E_dup2NI, E_dup_x1NR, E_dup2NR, E_dup_x1NN, E_dup2NN, E_goto, E_if_eq, E_if_ne, E_if_lt, E_if_ge, E_if_gt, E_if_le, E_ic_eq, E_ic_ne, E_ic_lt, E_ic_ge, E_ic_gt, E_ic_le, E_ifnull, E_ifnullN, E_ifnonnull, E_ifnonnullN, E_get, E_gf, E_xv, E_n0, E_ns, E_putI, E_putR, E_putN, E_pf, E_st0, E_sts, E_iaload, E_caload, E_laload, E_aaload, E_alen, E_iast, E_cast, E_last, E_xI, E_xJ, E_xQ, E_xN, E_lk, E_lkn, E_s1, E_s1h, E_s1I, E_s1R, E_s1N, E_s1L, E_s2, E_s2h, E_s2L, E_s2I, E_s2R, E_s2N, E_a1, E_a0, E_aI, E_aR, E_aN, E_aL, Option.isSome_some, eq_self, true_and, and_true, true_or, or_true, ne_eq, not_false_eq_true, not_true_eq_false, reduceIte, reduceCtorEq, Nat.reduceAdd, Nat.reduceBEq, Nat.reduceEqDiff, Option.toList_some, Option.toList_none, List.cons_append, List.nil_append, i_1]
  refine l_sc hz hT (by omega) d_Law_law_229 ?_
  rw [hvv]
  refine sp_callSW hz (c_Law_tick l htr G) (As := [.ref (A 15), .int v]) (rest := []) w_Law_61 (l_rm (by decide) (by decide) (by show 100 + 30 * k + 1 ≤ _; omega) (by show 10000 + 200 * k + 6 ≤ _; omega)) rfl (Nat.le_of_ble_eq_true rfl) d_Law_law_230 ⟨A, W, S, v, rfl, hC, fun hb => ?_, fun n hn hv => ⟨h30 n hn, fun M1 hC1 hf1 => ?_⟩⟩ rfl
  · exact go M 1 S (ffr.refl M W) hC (Or.inl ⟨rfl, rfl, rfl, hb⟩)
  · exact go M1 0 _ hf1 hC1 (Or.inr ⟨rfl, n, hn, hv, rfl⟩)
/-- slab -/
theorem l_c5 (hz : sp_C z l room_1 G M0 R_Law b_Law_law 7 rt) (htr : l.stackTraces = false) (hT : lTs z M0 b Ln xs) (h3 : 3 * k + 3 ≤ Ln) (hK : lH z G M0 Q b (k + 1)) (hj : jS G M A W B o S ws fr V k) : sp_W z G M0 Q 7 (100 + 30 * k) (10000 + 200 * k) 259 (lLo b o A B k) [] M := by
  have hC := hj.c
  have hLn := hT.2
  generalize hvv : xs (3 * k + 1) = c
  generalize hvw : xs (3 * k + 2) = w
  have go : ∀ (M1 : sp_M) (t : Nat), jS G M1 A W B o S ws fr V k → ((t = 1 ∧ ¬ ((∃ n, n < 4 ∧ c = nI n) ∧ ∃ n, n ≤ 2 ∧ w = nI n)) ∨ (t = 0 ∧ ∃ n m, n < 4 ∧ c = nI n ∧ m ≤ 2 ∧ w = nI m ∧ ∀ f, M1 o = some (.inl (G.2.1 2, 1, .inr (.inl f))) → f 0 = (nI (slV n m S)).toInt64)) → sp_W z G M0 Q 7 (100 + 30 * k + 1) (10000 + 200 * k + 6) 276 (lLo b o A B k) [.int (nI t)] M1 := by
    intro M1 t hj1 hcase
    have hm1 := hj1.m
    refine sp_run hz _ _ e_Law_law_276 _ _ _ ?_
    simp only [k_Law_law_276, lLo, E_nil, E_iconst, E_bipush, E_sipush, E_ldc, E_ldc2, E_lconst, E_null, E_iload_n, E_lload_n, E_aload_n, E_istore_n, E_lstore_n, E_astore_n, E_astoreN_n, E_iload, E_lload, E_aload, E_istore, E_lstore, E_astore, E_astoreN, E_ldi, E_ldl, E_lda, E_ldN, E_iinc, E_iadd, E_isub, E_imul, E_iand, E_ior, E_ixor, E_ishl, E_ishr, E_idiv, E_irem, E_ineg, E_ladd, E_lsub, E_land, E_lor, E_lcmp, E_lshl, E_lshr, E_lushr, E_i2l, E_l2i, E_i2c, E_dupI, E_popI, E_dup_x1II, E_dup2II, E_dup_x1IR, E_dup2IR, E_dup_x1IN, E_dup2IN, E_dupR, E_popR, E_dup_x1RI, E_dup2RI, E_dup_x1RR, E_dup2RR, E_dup_x1RN, E_dup2RN, E_dupN, E_popN, E_dup_x1NI, E_dup2NI, E_dup_x1NR, E_dup2NR, E_dup_x1NN, E_dup2NN, E_goto, E_if_eq, E_if_ne, E_if_lt, E_if_ge, E_if_gt, E_if_le, E_ic_eq, E_ic_ne, E_ic_lt, E_ic_ge, E_ic_gt, E_ic_le, E_ifnull, E_ifnullN, E_ifnonnull, E_ifnonnullN, E_get, E_gf, E_xv, E_n0, E_ns, E_putI, E_putR, E_putN, E_pf, E_st0, E_sts, E_iaload, E_caload, E_laload, E_aaload, E_alen, E_iast, E_cast, E_last, E_xI, E_xJ, E_xQ, E_xN, E_lk, E_lkn, E_s1, E_s1h, E_s1I, E_s1R, E_s1N, E_s1L, E_s2, E_s2h, E_s2L, E_s2I, E_s2R, E_s2N, E_a1, E_a0, E_aI, E_aR, E_aN, E_aL, Option.isSome_some, eq_self, true_and, and_true, true_or, or_true, ne_eq, not_false_eq_true, not_true_eq_false, reduceIte, reduceCtorEq, Nat.reduceAdd, Nat.reduceBEq, Nat.reduceEqDiff, Option.toList_some, Option.toList_none, List.cons_append, List.nil_append, i_1]
    refine l_sc hz hT (by omega) d_Law_law_284 ?_
    rw [hvv]
    refine sp_run hz _ _ e_Law_law_285 _ _ _ ?_
    simp only [k_Law_law_285, E_nil, E_iconst, E_bipush, E_sipush, E_ldc, E_ldc2, E_lconst, E_null, E_iload_n, E_lload_n, E_aload_n, E_istore_n, E_lstore_n, E_astore_n, E_astoreN_n, E_iload, E_lload, E_aload, E_istore, E_lstore, E_astore, E_astoreN, E_ldi, E_ldl, E_lda, E_ldN, E_iinc, E_iadd, E_isub, E_imul, E_iand, E_ior, E_ixor, E_ishl, E_ishr, E_idiv, E_irem, E_ineg, E_ladd, E_lsub, E_land, E_lor, E_lcmp, E_lshl, E_lshr, E_lushr, E_i2l, E_l2i, E_i2c, E_dupI, E_popI, E_dup_x1II, E_dup2II, E_dup_x1IR, E_dup2IR, E_dup_x1IN, E_dup2IN, E_dupR, E_popR, E_dup_x1RI, E_dup2RI, E_dup_x1RR, E_dup2RR, E_dup_x1RN, E_dup2RN, E_dupN, E_popN, E_dup_x1NI, E_dup2NI, E_dup_x1NR, E_dup2NR, E_dup_x1NN, E_dup2NN, E_goto, E_if_eq, E_if_ne, E_if_lt, E_if_ge, E_if_gt, E_if_le, E_ic_eq, E_ic_ne, E_ic_lt, E_ic_ge, E_ic_gt, E_ic_le, E_ifnull, E_ifnullN, E_ifnonnull, E_ifnonnullN, E_get, E_gf, E_xv, E_n0, E_ns, E_putI, E_putR, E_putN, E_pf, E_st0, E_sts, E_iaload, E_caload, E_laload, E_aaload, E_alen, E_iast, E_cast, E_last, E_xI, E_xJ, E_xQ, E_xN, E_lk, E_lkn, E_s1, E_s1h, E_s1I, E_s1R, E_s1N, E_s1L, E_s2, E_s2h, E_s2L, E_s2I, E_s2R, E_s2N, E_a1, E_a0, E_aI, E_aR, E_aN, E_aL, Option.isSome_some, eq_self, true_and, and_true, true_or, or_true, ne_eq, not_false_eq_true, not_true_eq_false, reduceIte, reduceCtorEq, Nat.reduceAdd, Nat.reduceBEq, Nat.reduceEqDiff, Option.toList_some, Option.toList_none, List.cons_append, List.nil_append, i_2]
    refine l_sc hz hT (by omega) d_Law_law_290 ?_
    rw [hvw]
    refine sp_callV hz (c_Mod_slab l G) (ci := 8) (As := [.int c, .int w]) (rest := []) rfl w_Law_68 (l_rm (by decide) (by decide) (by show 100 + 30 * k + 1 + 0 ≤ _; omega) (by show 10000 + 200 * k + 6 + 0 ≤ _; omega)) hm1.o rfl (Nat.le_of_ble_eq_true rfl) d_Law_law_291 ⟨B, _, _, _, _, _, _, V, c, w, rfl, hm1, hC.pg.2.1, fun hb M2 hm2 hf2 => ?_, fun n m hn hc hm hw M2 hm2 hf2 => ?_⟩ rfl
    · rcases hcase with ⟨rfl, -⟩ | ⟨-, n, m, hn, hc, hm, hw, -⟩
      · exact l_f294 hz (by omega) hK (t := 1) (by decide) (hj1.v hf2 hm2) (fun h => absurd h (by decide)) (by show 100 + 30 * k + 1 + 0 ≤ _; omega) (by show 10000 + 200 * k + 6 + 0 ≤ _; omega) (fun q hq => hq)
      · exact absurd ⟨⟨n, hn, hc⟩, ⟨m, hm, hw⟩⟩ hb
    · rcases hcase with ⟨-, hb⟩ | ⟨rfl, n', m', hn', hc', hm', hw', hf'⟩
      · exact absurd ⟨⟨n, hn, hc⟩, ⟨m, hm, hw⟩⟩ hb
      · have e1 : n = n' := nI_j (by omega) (by omega) (hc.symm.trans hc')
        have e2 : m = m' := nI_j (by omega) (by omega) (hw.symm.trans hw')
        subst e1
        subst e2
        exact l_f294 hz (by omega) hK (t := 0) (by decide) (hj1.v hf2 hm2) (fun _ f hf => by rw [hj1.ob hf2] at hf; exact hf' f hf) (by show 100 + 30 * k + 1 + 0 ≤ _; omega) (by show 10000 + 200 * k + 6 + 0 ≤ _; omega) (fun q hq => hq)
  refine sp_run hz _ _ e_Law_law_259 _ _ _ ?_
  simp only [k_Law_law_259, lLo, E_nil, E_iconst, E_bipush, E_sipush, E_ldc, E_ldc2, E_lconst, E_null, E_iload_n, E_lload_n, E_aload_n, E_istore_n, E_lstore_n, E_astore_n, E_astoreN_n, E_iload, E_lload, E_aload, E_istore, E_lstore, E_astore, E_astoreN, E_ldi, E_ldl, E_lda, E_ldN, E_iinc, E_iadd, E_isub, E_imul, E_iand, E_ior, E_ixor, E_ishl, E_ishr, E_idiv, E_irem, E_ineg, E_ladd, E_lsub, E_land, E_lor, E_lcmp, E_lshl, E_lshr, E_lushr, E_i2l, E_l2i, E_i2c, E_dupI, E_popI, E_dup_x1II, E_dup2II, E_dup_x1IR, E_dup2IR, E_dup_x1IN, E_dup2IN, E_dupR, E_popR, E_dup_x1RI, E_dup2RI, E_dup_x1RR, E_dup2RR, E_dup_x1RN, E_dup2RN, E_dupN, E_popN, E_dup_x1NI, E_dup2NI, E_dup_x1NR, E_dup2NR, E_dup_x1NN, E_dup2NN, E_goto, E_if_eq, E_if_ne, E_if_lt, E_if_ge, E_if_gt, E_if_le, E_ic_eq, E_ic_ne, E_ic_lt, E_ic_ge, E_ic_gt, E_ic_le, E_ifnull, E_ifnullN, E_ifnonnull, E_ifnonnullN, E_get, E_gf, E_xv, E_n0, E_ns, E_putI, E_putR, E_putN, E_pf, E_st0, E_sts, E_iaload, E_caload, E_laload, E_aaload, E_alen, E_iast, E_cast, E_last, E_xI, E_xJ, E_xQ, E_xN, E_lk, E_lkn, E_s1, E_s1h, E_s1I, E_s1R, E_s1N, E_s1L, E_s2, E_s2h, E_s2L, E_s2I, E_s2R, E_s2N, E_a1, E_a0, E_aI, E_aR, E_aN, E_aL, Option.isSome_some, eq_self, true_and, and_true, true_or, or_true, ne_eq, not_false_eq_true, not_true_eq_false, reduceIte, reduceCtorEq, Nat.reduceAdd, Nat.reduceBEq, Nat.reduceEqDiff, Option.toList_some, Option.toList_none, List.cons_append, List.nil_append, i_1]
  refine l_sc hz hT (by omega) d_Law_law_265 ?_
  rw [hvv]
  refine sp_run hz _ _ e_Law_law_266 _ _ _ ?_
  simp only [k_Law_law_266, E_nil, E_iconst, E_bipush, E_sipush, E_ldc, E_ldc2, E_lconst, E_null, E_iload_n, E_lload_n, E_aload_n, E_istore_n, E_lstore_n, E_astore_n, E_astoreN_n, E_iload, E_lload, E_aload, E_istore, E_lstore, E_astore, E_astoreN, E_ldi, E_ldl, E_lda, E_ldN, E_iinc, E_iadd, E_isub, E_imul, E_iand, E_ior, E_ixor, E_ishl, E_ishr, E_idiv, E_irem, E_ineg, E_ladd, E_lsub, E_land, E_lor, E_lcmp, E_lshl, E_lshr, E_lushr, E_i2l, E_l2i, E_i2c, E_dupI, E_popI, E_dup_x1II, E_dup2II, E_dup_x1IR, E_dup2IR, E_dup_x1IN, E_dup2IN, E_dupR, E_popR, E_dup_x1RI, E_dup2RI, E_dup_x1RR, E_dup2RR, E_dup_x1RN, E_dup2RN, E_dupN, E_popN, E_dup_x1NI, E_dup2NI, E_dup_x1NR, E_dup2NR, E_dup_x1NN, E_dup2NN, E_goto, E_if_eq, E_if_ne, E_if_lt, E_if_ge, E_if_gt, E_if_le, E_ic_eq, E_ic_ne, E_ic_lt, E_ic_ge, E_ic_gt, E_ic_le, E_ifnull, E_ifnullN, E_ifnonnull, E_ifnonnullN, E_get, E_gf, E_xv, E_n0, E_ns, E_putI, E_putR, E_putN, E_pf, E_st0, E_sts, E_iaload, E_caload, E_laload, E_aaload, E_alen, E_iast, E_cast, E_last, E_xI, E_xJ, E_xQ, E_xN, E_lk, E_lkn, E_s1, E_s1h, E_s1I, E_s1R, E_s1N, E_s1L, E_s2, E_s2h, E_s2L, E_s2I, E_s2R, E_s2N, E_a1, E_a0, E_aI, E_aR, E_aN, E_aL, Option.isSome_some, eq_self, true_and, and_true, true_or, or_true, ne_eq, not_false_eq_true, not_true_eq_false, reduceIte, reduceCtorEq, Nat.reduceAdd, Nat.reduceBEq, Nat.reduceEqDiff, Option.toList_some, Option.toList_none, List.cons_append, List.nil_append, i_2]
  refine l_sc hz hT (by omega) d_Law_law_271 ?_
  rw [hvw]
  refine sp_run hz _ _ e_Law_law_272 _ _ _ ?_
  simp only [k_Law_law_272, E_nil, E_iconst, E_bipush, E_sipush, E_ldc, E_ldc2, E_lconst, E_null, E_iload_n, E_lload_n, E_aload_n, E_istore_n, E_lstore_n, E_astore_n, E_astoreN_n, E_iload, E_lload, E_aload, E_istore, E_lstore, E_astore, E_astoreN, E_ldi, E_ldl, E_lda, E_ldN, E_iinc, E_iadd, E_isub, E_imul, E_iand, E_ior, E_ixor, E_ishl, E_ishr, E_idiv, E_irem, E_ineg, E_ladd, E_lsub, E_land, E_lor, E_lcmp, E_lshl, E_lshr, E_lushr, E_i2l, E_l2i, E_i2c, E_dupI, E_popI, E_dup_x1II, E_dup2II, E_dup_x1IR, E_dup2IR, E_dup_x1IN, E_dup2IN, E_dupR, E_popR, E_dup_x1RI, E_dup2RI, E_dup_x1RR, E_dup2RR, E_dup_x1RN, E_dup2RN, E_dupN, E_popN, E_dup_x1NI, E_dup2NI, E_dup_x1NR, E_dup2NR, E_dup_x1NN, E_dup2NN, E_goto, E_if_eq, E_if_ne, E_if_lt, E_if_ge, E_if_gt, E_if_le, E_ic_eq, E_ic_ne, E_ic_lt, E_ic_ge, E_ic_gt, E_ic_le, E_ifnull, E_ifnullN, E_ifnonnull, E_ifnonnullN, E_get, E_gf, E_xv, E_n0, E_ns, E_putI, E_putR, E_putN, E_pf, E_st0, E_sts, E_iaload, E_caload, E_laload, E_aaload, E_alen, E_iast, E_cast, E_last, E_xI, E_xJ, E_xQ, E_xN, E_lk, E_lkn, E_s1, E_s1h, E_s1I, E_s1R, E_s1N, E_s1L, E_s2, E_s2h, E_s2L, E_s2I, E_s2R, E_s2N, E_a1, E_a0, E_aI, E_aR, E_aN, E_aL, Option.isSome_some, eq_self, true_and, and_true, true_or, or_true, ne_eq, not_false_eq_true, not_true_eq_false, reduceIte, reduceCtorEq, Nat.reduceAdd, Nat.reduceBEq, Nat.reduceEqDiff, Option.toList_some, Option.toList_none, List.cons_append, List.nil_append]
  refine sp_callSW hz (c_Law_slab l htr G) (As := [.ref (A 15), .int c, .int w, .ref o]) (rest := []) w_Law_65 (l_rm (by decide) (by decide) (by show 100 + 30 * k + 1 ≤ _; omega) (by show 10000 + 200 * k + 6 ≤ _; omega)) rfl (Nat.le_of_ble_eq_true rfl) d_Law_law_273 ⟨A, W, S, c, w, o, rfl, hC, hj.2.2.2.2.1, fun hb => ?_, fun n m hn hc hm hw f hf => ?_⟩ rfl
  · exact go M 1 hj (Or.inl ⟨rfl, hb⟩)
  · exact go _ 0 (hj.ao f) (Or.inr ⟨rfl, n, m, hn, hc, hm, hw, fun f' hf' => by rw [sp_u_s] at hf'; cases hf'; exact hf⟩)
/-- order -/
theorem l_c6 (hz : sp_C z l room_1 G M0 R_Law b_Law_law 7 rt) (htr : l.stackTraces = false) (hT : lTs z M0 b Ln xs) (h3 : 3 * k + 3 ≤ Ln) (hK : lH z G M0 Q b (k + 1)) (hj : jS G M A W B o S ws fr V k) : sp_W z G M0 Q 7 (100 + 30 * k) (10000 + 200 * k) 327 (lLo b o A B k) [] M := by
  have hC := hj.c
  have hLn := hT.2
  have h16 : V 16 < 2 ^ 31 := by
    obtain ⟨-, -, -, -, -, -, -, -, -, -, hck⟩ := hj
    omega
  have hfl : ∀ n, n < 4 → (fi n (sI S)).length ≤ 2000000 := fun n hn => by
    obtain ⟨R, hS1, hsr, -⟩ := hj.m
    have h1 := hS1.bl.2.2.2.1
    have h2 := hsr.len
    have h3 : (fi n (sI S)).length ≤ (sI S).length := List.length_filter_le _ _
    omega
  generalize hvv : xs (3 * k + 1) = c
  generalize hvw : xs (3 * k + 2) = w
  have go : ∀ (M1 : sp_M) (t : Nat), jS G M1 A W B o S ws fr V k → ((t = 1 ∧ ¬ ∃ n, n < 4 ∧ c = nI n) ∨ (t = 2 ∧ ∃ n, n < 4 ∧ c = nI n ∧ (w < 0 ∨ ∃ m, m < 2 ^ 31 ∧ w = nI m ∧ (fi n (sI S)).length ≤ m)) ∨ (t = 0 ∧ ∃ n m x, n < 4 ∧ c = nI n ∧ m < 2 ^ 31 ∧ w = nI m ∧ (fi n (sI S))[m]? = some x ∧ ∀ f, M1 o = some (.inl (G.2.1 2, 1, .inr (.inl f))) → f 0 = (nI (iT x)).toInt64)) → sp_W z G M0 Q 7 (100 + 30 * k + 1) (10000 + 200 * k + 6) 344 (lLo b o A B k) [.int (nI t)] M1 := by
    intro M1 t hj1 hcase
    have hm1 := hj1.m
    refine sp_run hz _ _ e_Law_law_344 _ _ _ ?_
    simp only [k_Law_law_344, lLo, E_nil, E_iconst, E_bipush, E_sipush, E_ldc, E_ldc2, E_lconst, E_null, E_iload_n, E_lload_n, E_aload_n, E_istore_n, E_lstore_n, E_astore_n, E_astoreN_n, E_iload, E_lload, E_aload, E_istore, E_lstore, E_astore, E_astoreN, E_ldi, E_ldl, E_lda, E_ldN, E_iinc, E_iadd, E_isub, E_imul, E_iand, E_ior, E_ixor, E_ishl, E_ishr, E_idiv, E_irem, E_ineg, E_ladd, E_lsub, E_land, E_lor, E_lcmp, E_lshl, E_lshr, E_lushr, E_i2l, E_l2i, E_i2c, E_dupI, E_popI, E_dup_x1II, E_dup2II, E_dup_x1IR, E_dup2IR, E_dup_x1IN, E_dup2IN, E_dupR, E_popR, E_dup_x1RI, E_dup2RI, E_dup_x1RR, E_dup2RR, E_dup_x1RN, E_dup2RN, E_dupN, E_popN, E_dup_x1NI, E_dup2NI, E_dup_x1NR, E_dup2NR, E_dup_x1NN, E_dup2NN, E_goto, E_if_eq, E_if_ne, E_if_lt, E_if_ge, E_if_gt, E_if_le, E_ic_eq, E_ic_ne, E_ic_lt, E_ic_ge, E_ic_gt, E_ic_le, E_ifnull, E_ifnullN, E_ifnonnull, E_ifnonnullN, E_get, E_gf, E_xv, E_n0, E_ns, E_putI, E_putR, E_putN, E_pf, E_st0, E_sts, E_iaload, E_caload, E_laload, E_aaload, E_alen, E_iast, E_cast, E_last, E_xI, E_xJ, E_xQ, E_xN, E_lk, E_lkn, E_s1, E_s1h, E_s1I, E_s1R, E_s1N, E_s1L, E_s2, E_s2h, E_s2L, E_s2I, E_s2R, E_s2N, E_a1, E_a0, E_aI, E_aR, E_aN, E_aL, Option.isSome_some, eq_self, true_and, and_true, true_or, or_true, ne_eq, not_false_eq_true, not_true_eq_false, reduceIte, reduceCtorEq, Nat.reduceAdd, Nat.reduceBEq, Nat.reduceEqDiff, Option.toList_some, Option.toList_none, List.cons_append, List.nil_append, i_1]
    refine l_sc hz hT (by omega) d_Law_law_352 ?_
    rw [hvv]
    refine sp_run hz _ _ e_Law_law_353 _ _ _ ?_
    simp only [k_Law_law_353, E_nil, E_iconst, E_bipush, E_sipush, E_ldc, E_ldc2, E_lconst, E_null, E_iload_n, E_lload_n, E_aload_n, E_istore_n, E_lstore_n, E_astore_n, E_astoreN_n, E_iload, E_lload, E_aload, E_istore, E_lstore, E_astore, E_astoreN, E_ldi, E_ldl, E_lda, E_ldN, E_iinc, E_iadd, E_isub, E_imul, E_iand, E_ior, E_ixor, E_ishl, E_ishr, E_idiv, E_irem, E_ineg, E_ladd, E_lsub, E_land, E_lor, E_lcmp, E_lshl, E_lshr, E_lushr, E_i2l, E_l2i, E_i2c, E_dupI, E_popI, E_dup_x1II, E_dup2II, E_dup_x1IR, E_dup2IR, E_dup_x1IN, E_dup2IN, E_dupR, E_popR, E_dup_x1RI, E_dup2RI, E_dup_x1RR, E_dup2RR, E_dup_x1RN, E_dup2RN, E_dupN, E_popN, E_dup_x1NI, E_dup2NI, E_dup_x1NR, E_dup2NR, E_dup_x1NN, E_dup2NN, E_goto, E_if_eq, E_if_ne, E_if_lt, E_if_ge, E_if_gt, E_if_le, E_ic_eq, E_ic_ne, E_ic_lt, E_ic_ge, E_ic_gt, E_ic_le, E_ifnull, E_ifnullN, E_ifnonnull, E_ifnonnullN, E_get, E_gf, E_xv, E_n0, E_ns, E_putI, E_putR, E_putN, E_pf, E_st0, E_sts, E_iaload, E_caload, E_laload, E_aaload, E_alen, E_iast, E_cast, E_last, E_xI, E_xJ, E_xQ, E_xN, E_lk, E_lkn, E_s1, E_s1h, E_s1I, E_s1R, E_s1N, E_s1L, E_s2, E_s2h, E_s2L, E_s2I, E_s2R, E_s2N, E_a1, E_a0, E_aI, E_aR, E_aN, E_aL, Option.isSome_some, eq_self, true_and, and_true, true_or, or_true, ne_eq, not_false_eq_true, not_true_eq_false, reduceIte, reduceCtorEq, Nat.reduceAdd, Nat.reduceBEq, Nat.reduceEqDiff, Option.toList_some, Option.toList_none, List.cons_append, List.nil_append, i_2]
    refine l_sc hz hT (by omega) d_Law_law_358 ?_
    rw [hvw]
    refine sp_callV hz (c_Mod_order l G) (ci := 8) (As := [.int c, .int w]) (rest := []) rfl w_Law_71 (l_rm (by decide) (by decide) (by show 100 + 30 * k + 1 + 0 ≤ _; omega) (by show 10000 + 200 * k + 6 + 0 ≤ _; omega)) hm1.o rfl (Nat.le_of_ble_eq_true rfl) d_Law_law_359 ⟨B, _, _, _, _, _, _, V, c, w, rfl, hm1, h16, fun hb M2 hm2 hf2 => ?_, fun n hn hc hb M2 hm2 hf2 => ?_, fun n m x hn hc hm hw hx M2 hm2 hf2 => ?_⟩ rfl
    · rcases hcase with ⟨rfl, -⟩ | ⟨-, n, hn, hc, -⟩ | ⟨-, n, m, x, hn, hc, -⟩
      · exact l_f362 hz (by omega) hK (t := 1) (by decide) (hj1.v hf2 hm2) (fun h => absurd h (by decide)) (by show 100 + 30 * k + 1 + 0 ≤ _; omega) (by show 10000 + 200 * k + 6 + 0 ≤ _; omega) (fun q hq => hq)
      · exact absurd ⟨n, hn, hc⟩ hb
      · exact absurd ⟨n, hn, hc⟩ hb
    · rcases hcase with ⟨-, h⟩ | ⟨rfl, -⟩ | ⟨-, n', m, x, hn', hc', hm, hw, hx, -⟩
      · exact absurd ⟨n, hn, hc⟩ h
      · exact l_f362 hz (by omega) hK (t := 2) (by decide) (hj1.v hf2 hm2) (fun h => absurd h (by decide)) (by show 100 + 30 * k + 1 + 0 ≤ _; omega) (by show 10000 + 200 * k + 6 + 0 ≤ _; omega) (fun q hq => hq)
      · have e1 : n = n' := nI_j (by omega) (by omega) (hc.symm.trans hc')
        subst e1
        exact absurd hb (bd_ex (hfl n hn) (List.getElem?_eq_some_iff.mp hx).1 hw)
    · rcases hcase with ⟨-, h⟩ | ⟨-, n', hn', hc', hb⟩ | ⟨rfl, n', m', x', hn', hc', hm', hw', hx', hf'⟩
      · exact absurd ⟨n, hn, hc⟩ h
      · have e1 : n = n' := nI_j (by omega) (by omega) (hc.symm.trans hc')
        subst e1
        exact absurd hb (bd_ex (hfl n hn) (List.getElem?_eq_some_iff.mp hx).1 hw)
      · have e1 : n = n' := nI_j (by omega) (by omega) (hc.symm.trans hc')
        have e2 : m = m' := nI_j hm hm' (hw.symm.trans hw')
        subst e1
        subst e2
        have e3 : x = x' := Option.some.inj (hx.symm.trans hx')
        subst e3
        exact l_f362 hz (by omega) hK (t := 0) (by decide) (hj1.v hf2 hm2) (fun _ f hf => by rw [hj1.ob hf2] at hf; exact hf' f hf) (by show 100 + 30 * k + 1 + 0 ≤ _; omega) (by show 10000 + 200 * k + 6 + 0 ≤ _; omega) (fun q hq => hq)
  refine sp_run hz _ _ e_Law_law_327 _ _ _ ?_
  simp only [k_Law_law_327, lLo, E_nil, E_iconst, E_bipush, E_sipush, E_ldc, E_ldc2, E_lconst, E_null, E_iload_n, E_lload_n, E_aload_n, E_istore_n, E_lstore_n, E_astore_n, E_astoreN_n, E_iload, E_lload, E_aload, E_istore, E_lstore, E_astore, E_astoreN, E_ldi, E_ldl, E_lda, E_ldN, E_iinc, E_iadd, E_isub, E_imul, E_iand, E_ior, E_ixor, E_ishl, E_ishr, E_idiv, E_irem, E_ineg, E_ladd, E_lsub, E_land, E_lor, E_lcmp, E_lshl, E_lshr, E_lushr, E_i2l, E_l2i, E_i2c, E_dupI, E_popI, E_dup_x1II, E_dup2II, E_dup_x1IR, E_dup2IR, E_dup_x1IN, E_dup2IN, E_dupR, E_popR, E_dup_x1RI, E_dup2RI, E_dup_x1RR, E_dup2RR, E_dup_x1RN, E_dup2RN, E_dupN, E_popN, E_dup_x1NI, E_dup2NI, E_dup_x1NR, E_dup2NR, E_dup_x1NN, E_dup2NN, E_goto, E_if_eq, E_if_ne, E_if_lt, E_if_ge, E_if_gt, E_if_le, E_ic_eq, E_ic_ne, E_ic_lt, E_ic_ge, E_ic_gt, E_ic_le, E_ifnull, E_ifnullN, E_ifnonnull, E_ifnonnullN, E_get, E_gf, E_xv, E_n0, E_ns, E_putI, E_putR, E_putN, E_pf, E_st0, E_sts, E_iaload, E_caload, E_laload, E_aaload, E_alen, E_iast, E_cast, E_last, E_xI, E_xJ, E_xQ, E_xN, E_lk, E_lkn, E_s1, E_s1h, E_s1I, E_s1R, E_s1N, E_s1L, E_s2, E_s2h, E_s2L, E_s2I, E_s2R, E_s2N, E_a1, E_a0, E_aI, E_aR, E_aN, E_aL, Option.isSome_some, eq_self, true_and, and_true, true_or, or_true, ne_eq, not_false_eq_true, not_true_eq_false, reduceIte, reduceCtorEq, Nat.reduceAdd, Nat.reduceBEq, Nat.reduceEqDiff, Option.toList_some, Option.toList_none, List.cons_append, List.nil_append, i_1]
  refine l_sc hz hT (by omega) d_Law_law_333 ?_
  rw [hvv]
  refine sp_run hz _ _ e_Law_law_334 _ _ _ ?_
  simp only [k_Law_law_334, E_nil, E_iconst, E_bipush, E_sipush, E_ldc, E_ldc2, E_lconst, E_null, E_iload_n, E_lload_n, E_aload_n, E_istore_n, E_lstore_n, E_astore_n, E_astoreN_n, E_iload, E_lload, E_aload, E_istore, E_lstore, E_astore, E_astoreN, E_ldi, E_ldl, E_lda, E_ldN, E_iinc, E_iadd, E_isub, E_imul, E_iand, E_ior, E_ixor, E_ishl, E_ishr, E_idiv, E_irem, E_ineg, E_ladd, E_lsub, E_land, E_lor, E_lcmp, E_lshl, E_lshr, E_lushr, E_i2l, E_l2i, E_i2c, E_dupI, E_popI, E_dup_x1II, E_dup2II, E_dup_x1IR, E_dup2IR, E_dup_x1IN, E_dup2IN, E_dupR, E_popR, E_dup_x1RI, E_dup2RI, E_dup_x1RR, E_dup2RR, E_dup_x1RN, E_dup2RN, E_dupN, E_popN, E_dup_x1NI, E_dup2NI, E_dup_x1NR, E_dup2NR, E_dup_x1NN, E_dup2NN, E_goto, E_if_eq, E_if_ne, E_if_lt, E_if_ge, E_if_gt, E_if_le, E_ic_eq, E_ic_ne, E_ic_lt, E_ic_ge, E_ic_gt, E_ic_le, E_ifnull, E_ifnullN, E_ifnonnull, E_ifnonnullN, E_get, E_gf, E_xv, E_n0, E_ns, E_putI, E_putR, E_putN, E_pf, E_st0, E_sts, E_iaload, E_caload, E_laload, E_aaload, E_alen, E_iast, E_cast, E_last, E_xI, E_xJ, E_xQ, E_xN, E_lk, E_lkn, E_s1, E_s1h, E_s1I, E_s1R, E_s1N, E_s1L, E_s2, E_s2h, E_s2L, E_s2I, E_s2R, E_s2N, E_a1, E_a0, E_aI, E_aR, E_aN, E_aL, Option.isSome_some, eq_self, true_and, and_true, true_or, or_true, ne_eq, not_false_eq_true, not_true_eq_false, reduceIte, reduceCtorEq, Nat.reduceAdd, Nat.reduceBEq, Nat.reduceEqDiff, Option.toList_some, Option.toList_none, List.cons_append, List.nil_append, i_2]
  refine l_sc hz hT (by omega) d_Law_law_339 ?_
  rw [hvw]
  refine sp_run hz _ _ e_Law_law_340 _ _ _ ?_
  simp only [k_Law_law_340, E_nil, E_iconst, E_bipush, E_sipush, E_ldc, E_ldc2, E_lconst, E_null, E_iload_n, E_lload_n, E_aload_n, E_istore_n, E_lstore_n, E_astore_n, E_astoreN_n, E_iload, E_lload, E_aload, E_istore, E_lstore, E_astore, E_astoreN, E_ldi, E_ldl, E_lda, E_ldN, E_iinc, E_iadd, E_isub, E_imul, E_iand, E_ior, E_ixor, E_ishl, E_ishr, E_idiv, E_irem, E_ineg, E_ladd, E_lsub, E_land, E_lor, E_lcmp, E_lshl, E_lshr, E_lushr, E_i2l, E_l2i, E_i2c, E_dupI, E_popI, E_dup_x1II, E_dup2II, E_dup_x1IR, E_dup2IR, E_dup_x1IN, E_dup2IN, E_dupR, E_popR, E_dup_x1RI, E_dup2RI, E_dup_x1RR, E_dup2RR, E_dup_x1RN, E_dup2RN, E_dupN, E_popN, E_dup_x1NI, E_dup2NI, E_dup_x1NR, E_dup2NR, E_dup_x1NN, E_dup2NN, E_goto, E_if_eq, E_if_ne, E_if_lt, E_if_ge, E_if_gt, E_if_le, E_ic_eq, E_ic_ne, E_ic_lt, E_ic_ge, E_ic_gt, E_ic_le, E_ifnull, E_ifnullN, E_ifnonnull, E_ifnonnullN, E_get, E_gf, E_xv, E_n0, E_ns, E_putI, E_putR, E_putN, E_pf, E_st0, E_sts, E_iaload, E_caload, E_laload, E_aaload, E_alen, E_iast, E_cast, E_last, E_xI, E_xJ, E_xQ, E_xN, E_lk, E_lkn, E_s1, E_s1h, E_s1I, E_s1R, E_s1N, E_s1L, E_s2, E_s2h, E_s2L, E_s2I, E_s2R, E_s2N, E_a1, E_a0, E_aI, E_aR, E_aN, E_aL, Option.isSome_some, eq_self, true_and, and_true, true_or, or_true, ne_eq, not_false_eq_true, not_true_eq_false, reduceIte, reduceCtorEq, Nat.reduceAdd, Nat.reduceBEq, Nat.reduceEqDiff, Option.toList_some, Option.toList_none, List.cons_append, List.nil_append]
  refine sp_callSW hz (c_Law_order l htr G) (As := [.ref (A 15), .int c, .int w, .ref o]) (rest := []) w_Law_69 (l_rm (by decide) (by decide) (by show 100 + 30 * k + 1 ≤ _; omega) (by show 10000 + 200 * k + 6 ≤ _; omega)) rfl (Nat.le_of_ble_eq_true rfl) d_Law_law_341 ⟨A, W, S, c, w, o, rfl, hC, hj.2.2.2.2.1, fun hb => ?_, fun n hn hc hb => ?_, fun n m x hn hc hm hw hx f hf => ?_⟩ rfl
  · exact go M 1 hj (Or.inl ⟨rfl, hb⟩)
  · exact go M 2 hj (Or.inr (Or.inl ⟨rfl, n, hn, hc, hb⟩))
  · exact go _ 0 (hj.ao f) (Or.inr (Or.inr ⟨rfl, n, m, x, hn, hc, hm, hw, hx, fun f' hf' => by rw [sp_u_s] at hf'; cases hf'; exact hf⟩))
/-- figure -/
theorem l_c7 (hz : sp_C z l room_1 G M0 R_Law b_Law_law 7 rt) (htr : l.stackTraces = false) (hT : lTs z M0 b Ln xs) (h3 : 3 * k + 3 ≤ Ln) (hK : lH z G M0 Q b (k + 1)) (hj : jS G M A W B o S ws fr V k) : sp_W z G M0 Q 7 (100 + 30 * k) (10000 + 200 * k) 395 (lLo b o A B k) [] M := by
  have hC := hj.c
  have hLn := hT.2
  obtain ⟨-, -, hv0, -⟩ := id hj
  generalize hvv : xs (3 * k + 1) = v
  have go : ∀ (M1 : sp_M) (t : Nat), jS G M1 A W B o S ws fr V k → ((t = 1 ∧ (v < 0 ∨ ∃ n, n < 2 ^ 31 ∧ v = nI n ∧ 9 ≤ n)) ∨ (t = 0 ∧ ∃ n, n ≤ 8 ∧ v = nI n ∧ ∀ f, M1 o = some (.inl (G.2.1 2, 1, .inr (.inl f))) → f 0 = (nI (fgV n S)).toInt64)) → sp_W z G M0 Q 7 (100 + 30 * k + 1) (10000 + 200 * k + 6) 406 (lLo b o A B k) [.int (nI t)] M1 := by
    intro M1 t hj1 hcase
    obtain ⟨R, hS1, hsr, hkd⟩ := hj1.m
    have hfg : ∀ n, [R.length, (sN S).1, V 14, V 15, V 17, V 18, V 19, V 20, (sL S).length].getD n 0 = fgV n S := by
      intro n
      obtain ⟨a1, a2, a3, a4, a5, a6⟩ := hv0
      rw [a1, a2, a3, a4, a5, a6, hsr.len]
      rfl
    refine sp_run hz _ _ e_Law_law_406 _ _ _ ?_
    simp only [k_Law_law_406, lLo, E_nil, E_iconst, E_bipush, E_sipush, E_ldc, E_ldc2, E_lconst, E_null, E_iload_n, E_lload_n, E_aload_n, E_istore_n, E_lstore_n, E_astore_n, E_astoreN_n, E_iload, E_lload, E_aload, E_istore, E_lstore, E_astore, E_astoreN, E_ldi, E_ldl, E_lda, E_ldN, E_iinc, E_iadd, E_isub, E_imul, E_iand, E_ior, E_ixor, E_ishl, E_ishr, E_idiv, E_irem, E_ineg, E_ladd, E_lsub, E_land, E_lor, E_lcmp, E_lshl, E_lshr, E_lushr, E_i2l, E_l2i, E_i2c, E_dupI, E_popI, E_dup_x1II, E_dup2II, E_dup_x1IR, E_dup2IR, E_dup_x1IN, E_dup2IN, E_dupR, E_popR, E_dup_x1RI, E_dup2RI, E_dup_x1RR, E_dup2RR, E_dup_x1RN, E_dup2RN, E_dupN, E_popN, E_dup_x1NI, E_dup2NI, E_dup_x1NR, E_dup2NR, E_dup_x1NN, E_dup2NN, E_goto, E_if_eq, E_if_ne, E_if_lt, E_if_ge, E_if_gt, E_if_le, E_ic_eq, E_ic_ne, E_ic_lt, E_ic_ge, E_ic_gt, E_ic_le, E_ifnull, E_ifnullN, E_ifnonnull, E_ifnonnullN, E_get, E_gf, E_xv, E_n0, E_ns, E_putI, E_putR, E_putN, E_pf, E_st0, E_sts, E_iaload, E_caload, E_laload, E_aaload, E_alen, E_iast, E_cast, E_last, E_xI, E_xJ, E_xQ, E_xN, E_lk, E_lkn, E_s1, E_s1h, E_s1I, E_s1R, E_s1N, E_s1L, E_s2, E_s2h, E_s2L, E_s2I, E_s2R, E_s2N, E_a1, E_a0, E_aI, E_aR, E_aN, E_aL, Option.isSome_some, eq_self, true_and, and_true, true_or, or_true, ne_eq, not_false_eq_true, not_true_eq_false, reduceIte, reduceCtorEq, Nat.reduceAdd, Nat.reduceBEq, Nat.reduceEqDiff, Option.toList_some, Option.toList_none, List.cons_append, List.nil_append, i_1]
    refine l_sc hz hT (by omega) d_Law_law_414 ?_
    rw [hvv]
    refine sp_callV hz (c_Mod_figure l G) (ci := 8) (As := [.int v]) (rest := []) rfl w_Law_74 (l_rm (by decide) (by decide) (by show 100 + 30 * k + 1 + 0 ≤ _; omega) (by show 10000 + 200 * k + 6 + 0 ≤ _; omega)) hS1.o rfl (Nat.le_of_ble_eq_true rfl) d_Law_law_415 ⟨B, _, _, R, _, _, _, V, v, (sN S).1, rfl, hS1, hC.pg.1, fun hb M2 hS2 hf2 => ?_, fun n hn hv M2 hS2 hf2 => ?_⟩ rfl
    · rcases hcase with ⟨rfl, -⟩ | ⟨-, n, hn, hv, -⟩
      · exact l_f418 hz (by omega) hK (t := 1) (by decide) (hj1.v hf2 ⟨R, hS2, hsr, hkd⟩) (fun h => absurd h (by decide)) (by show 100 + 30 * k + 1 + 0 ≤ _; omega) (by show 10000 + 200 * k + 6 + 0 ≤ _; omega) (fun q hq => hq)
      · exact absurd hb (bd_ex (len := 9) (by decide) (Nat.lt_succ_of_le hn) hv)
    · rcases hcase with ⟨-, hb⟩ | ⟨rfl, n', hn', hv', hf'⟩
      · exact absurd hb (bd_ex (len := 9) (by decide) (Nat.lt_succ_of_le hn) hv)
      · have e : n = n' := nI_j (by omega) (by omega) (hv.symm.trans hv')
        subst e
        exact l_f418 hz (by omega) hK (t := 0) (by decide) (hj1.v hf2 ⟨R, hS2, hsr, hkd⟩) (fun _ f hf => by rw [hj1.ob hf2] at hf; rw [hf' f hf, hfg]) (by show 100 + 30 * k + 1 + 0 ≤ _; omega) (by show 10000 + 200 * k + 6 + 0 ≤ _; omega) (fun q hq => hq)
  refine sp_run hz _ _ e_Law_law_395 _ _ _ ?_
  simp only [k_Law_law_395, lLo, E_nil, E_iconst, E_bipush, E_sipush, E_ldc, E_ldc2, E_lconst, E_null, E_iload_n, E_lload_n, E_aload_n, E_istore_n, E_lstore_n, E_astore_n, E_astoreN_n, E_iload, E_lload, E_aload, E_istore, E_lstore, E_astore, E_astoreN, E_ldi, E_ldl, E_lda, E_ldN, E_iinc, E_iadd, E_isub, E_imul, E_iand, E_ior, E_ixor, E_ishl, E_ishr, E_idiv, E_irem, E_ineg, E_ladd, E_lsub, E_land, E_lor, E_lcmp, E_lshl, E_lshr, E_lushr, E_i2l, E_l2i, E_i2c, E_dupI, E_popI, E_dup_x1II, E_dup2II, E_dup_x1IR, E_dup2IR, E_dup_x1IN, E_dup2IN, E_dupR, E_popR, E_dup_x1RI, E_dup2RI, E_dup_x1RR, E_dup2RR, E_dup_x1RN, E_dup2RN, E_dupN, E_popN, E_dup_x1NI, E_dup2NI, E_dup_x1NR, E_dup2NR, E_dup_x1NN, E_dup2NN, E_goto, E_if_eq, E_if_ne, E_if_lt, E_if_ge, E_if_gt, E_if_le, E_ic_eq, E_ic_ne, E_ic_lt, E_ic_ge, E_ic_gt, E_ic_le, E_ifnull, E_ifnullN, E_ifnonnull, E_ifnonnullN, E_get, E_gf, E_xv, E_n0, E_ns, E_putI, E_putR, E_putN, E_pf, E_st0, E_sts, E_iaload, E_caload, E_laload, E_aaload, E_alen, E_iast, E_cast, E_last, E_xI, E_xJ, E_xQ, E_xN, E_lk, E_lkn, E_s1, E_s1h, E_s1I, E_s1R, E_s1N, E_s1L, E_s2, E_s2h, E_s2L, E_s2I, E_s2R, E_s2N, E_a1, E_a0, E_aI, E_aR, E_aN, E_aL, Option.isSome_some, eq_self, true_and, and_true, true_or, or_true, ne_eq, not_false_eq_true, not_true_eq_false, reduceIte, reduceCtorEq, Nat.reduceAdd, Nat.reduceBEq, Nat.reduceEqDiff, Option.toList_some, Option.toList_none, List.cons_append, List.nil_append, i_1]
  refine l_sc hz hT (by omega) d_Law_law_401 ?_
  rw [hvv]
  refine sp_run hz _ _ e_Law_law_402 _ _ _ ?_
  simp only [k_Law_law_402, E_nil, E_iconst, E_bipush, E_sipush, E_ldc, E_ldc2, E_lconst, E_null, E_iload_n, E_lload_n, E_aload_n, E_istore_n, E_lstore_n, E_astore_n, E_astoreN_n, E_iload, E_lload, E_aload, E_istore, E_lstore, E_astore, E_astoreN, E_ldi, E_ldl, E_lda, E_ldN, E_iinc, E_iadd, E_isub, E_imul, E_iand, E_ior, E_ixor, E_ishl, E_ishr, E_idiv, E_irem, E_ineg, E_ladd, E_lsub, E_land, E_lor, E_lcmp, E_lshl, E_lshr, E_lushr, E_i2l, E_l2i, E_i2c, E_dupI, E_popI, E_dup_x1II, E_dup2II, E_dup_x1IR, E_dup2IR, E_dup_x1IN, E_dup2IN, E_dupR, E_popR, E_dup_x1RI, E_dup2RI, E_dup_x1RR, E_dup2RR, E_dup_x1RN, E_dup2RN, E_dupN, E_popN, E_dup_x1NI, E_dup2NI, E_dup_x1NR, E_dup2NR, E_dup_x1NN, E_dup2NN, E_goto, E_if_eq, E_if_ne, E_if_lt, E_if_ge, E_if_gt, E_if_le, E_ic_eq, E_ic_ne, E_ic_lt, E_ic_ge, E_ic_gt, E_ic_le, E_ifnull, E_ifnullN, E_ifnonnull, E_ifnonnullN, E_get, E_gf, E_xv, E_n0, E_ns, E_putI, E_putR, E_putN, E_pf, E_st0, E_sts, E_iaload, E_caload, E_laload, E_aaload, E_alen, E_iast, E_cast, E_last, E_xI, E_xJ, E_xQ, E_xN, E_lk, E_lkn, E_s1, E_s1h, E_s1I, E_s1R, E_s1N, E_s1L, E_s2, E_s2h, E_s2L, E_s2I, E_s2R, E_s2N, E_a1, E_a0, E_aI, E_aR, E_aN, E_aL, Option.isSome_some, eq_self, true_and, and_true, true_or, or_true, ne_eq, not_false_eq_true, not_true_eq_false, reduceIte, reduceCtorEq, Nat.reduceAdd, Nat.reduceBEq, Nat.reduceEqDiff, Option.toList_some, Option.toList_none, List.cons_append, List.nil_append]
  refine sp_callSW hz (c_Law_figure l htr G) (As := [.ref (A 15), .int v, .ref o]) (rest := []) w_Law_72 (l_rm (by decide) (by decide) (by show 100 + 30 * k + 1 ≤ _; omega) (by show 10000 + 200 * k + 6 ≤ _; omega)) rfl (Nat.le_of_ble_eq_true rfl) d_Law_law_403 ⟨A, W, S, v, o, rfl, hC, hj.2.2.2.2.1, fun hb => ?_, fun n hn hv f hf => ?_⟩ rfl
  · exact go M 1 hj (Or.inl ⟨rfl, hb⟩)
  · exact go _ 0 (hj.ao f) (Or.inr ⟨rfl, n, hn, hv, fun f' hf' => by rw [sp_u_s] at hf'; cases hf'; exact hf⟩)
theorem i_and7 (x : Int32) : ∃ c, c < 8 ∧ x &&& 7 = nI c := by
  refine ⟨x.toBitVec.toNat % 8, Nat.mod_lt _ (by decide), Int32.toBitVec_inj.mp (BitVec.eq_of_toNat_eq ?_)⟩
  have h1 : (x &&& 7).toBitVec.toNat = x.toBitVec.toNat &&& 7 := rfl
  have h2 : (nI (x.toBitVec.toNat % 8)).toBitVec.toNat = x.toBitVec.toNat % 8 % 2 ^ 32 := rfl
  rw [h1, h2, Nat.mod_eq_of_lt (Nat.lt_trans (Nat.mod_lt _ (by decide)) (by decide))]
  exact Nat.and_two_pow_sub_one_eq_mod _ 3
theorem i_sub3 {Ln k : Nat} (hL : Ln ≤ 1536) (hk : k ≤ 512) : nI Ln - 3 < nI (3 * k) ↔ Ln < 3 * k + 3 := by
  by_cases h : 3 ≤ Ln
  · obtain ⟨m, rfl⟩ : ∃ m, Ln = m + 3 := ⟨Ln - 3, by omega⟩
    have e : nI (m + 3) - 3 = nI m := by
      rw [← nI_add m 3, show (3 : Int32) = nI 3 from rfl, Int32.add_sub_cancel]
    rw [e, nI_ltI (by omega) (by omega)]
    omega
  · have hc : Ln = 0 ∨ Ln = 1 ∨ Ln = 2 := by omega
    have hneg : nI Ln - 3 < 0 := by
      rcases hc with rfl | rfl | rfl <;> decide
    have := Int32.lt_of_lt_of_le hneg (nI_pos' (n := 3 * k) (by omega))
    exact ⟨fun _ => by omega, fun _ => this⟩
theorem l_step (hz : sp_C z l room_1 G M0 R_Law b_Law_law 7 rt) (htr : l.stackTraces = false) (hT : lTs z M0 b Ln xs) (hk : k ≤ 512) (he : ∀ (M : sp_M) (L : sp_L) (cs sl : Nat), cs ≤ 601024 → sl ≤ 7293034 → sp_W z G M0 Q 7 cs sl 458 L [.int 1] M) (hK : 3 * k + 3 ≤ Ln → lH z G M0 Q b (k + 1)) : lH z G M0 Q b k := by
  intro M A W B o S ws fr V hj
  have hLn := hT.2
  refine sp_run hz _ _ e_Law_law_23 _ _ _ ?_
  simp only [k_Law_law_23, lLo, E_nil, E_iconst, E_bipush, E_sipush, E_ldc, E_ldc2, E_lconst, E_null, E_iload_n, E_lload_n, E_aload_n, E_istore_n, E_lstore_n, E_astore_n, E_astoreN_n, E_iload, E_lload, E_aload, E_istore, E_lstore, E_astore, E_astoreN, E_ldi, E_ldl, E_lda, E_ldN, E_iinc, E_iadd, E_isub, E_imul, E_iand, E_ior, E_ixor, E_ishl, E_ishr, E_idiv, E_irem, E_ineg, E_ladd, E_lsub, E_land, E_lor, E_lcmp, E_lshl, E_lshr, E_lushr, E_i2l, E_l2i, E_i2c, E_dupI, E_popI, E_dup_x1II, E_dup2II, E_dup_x1IR, E_dup2IR, E_dup_x1IN, E_dup2IN, E_dupR, E_popR, E_dup_x1RI, E_dup2RI, E_dup_x1RR, E_dup2RR, E_dup_x1RN, E_dup2RN, E_dupN, E_popN, E_dup_x1NI, E_dup2NI, E_dup_x1NR, E_dup2NR, E_dup_x1NN, E_dup2NN, E_goto, E_if_eq, E_if_ne, E_if_lt, E_if_ge, E_if_gt, E_if_le, E_ic_eq, E_ic_ne, E_ic_lt, E_ic_ge, E_ic_gt, E_ic_le, E_ifnull, E_ifnullN, E_ifnonnull, E_ifnonnullN, E_get, E_gf, E_xv, E_n0, E_ns, E_putI, E_putR, E_putN, E_pf, E_st0, E_sts, E_iaload, E_caload, E_laload, E_aaload, E_alen, E_iast, E_cast, E_last, E_xI, E_xJ, E_xQ, E_xN, E_lk, E_lkn, E_s1, E_s1h, E_s1I, E_s1R, E_s1N, E_s1L, E_s2, E_s2h, E_s2L, E_s2I, E_s2R, E_s2N, E_a1, E_a0, E_aI, E_aR, E_aN, E_aL, Option.isSome_some, eq_self, true_and, and_true, true_or, or_true, ne_eq, not_false_eq_true, not_true_eq_false, reduceIte, reduceCtorEq, Nat.reduceAdd, Nat.reduceBEq, Nat.reduceEqDiff, Option.toList_some, Option.toList_none, List.cons_append, List.nil_append]
  refine sp_tlen hz hT.1 d_Law_law_26 ?_
  refine sp_run hz _ _ e_Law_law_27 _ _ _ ?_
  simp only [k_Law_law_27, E_nil, E_iconst, E_bipush, E_sipush, E_ldc, E_ldc2, E_lconst, E_null, E_iload_n, E_lload_n, E_aload_n, E_istore_n, E_lstore_n, E_astore_n, E_astoreN_n, E_iload, E_lload, E_aload, E_istore, E_lstore, E_astore, E_astoreN, E_ldi, E_ldl, E_lda, E_ldN, E_iinc, E_iadd, E_isub, E_imul, E_iand, E_ior, E_ixor, E_ishl, E_ishr, E_idiv, E_irem, E_ineg, E_ladd, E_lsub, E_land, E_lor, E_lcmp, E_lshl, E_lshr, E_lushr, E_i2l, E_l2i, E_i2c, E_dupI, E_popI, E_dup_x1II, E_dup2II, E_dup_x1IR, E_dup2IR, E_dup_x1IN, E_dup2IN, E_dupR, E_popR, E_dup_x1RI, E_dup2RI, E_dup_x1RR, E_dup2RR, E_dup_x1RN, E_dup2RN, E_dupN, E_popN, E_dup_x1NI, E_dup2NI, E_dup_x1NR, E_dup2NR, E_dup_x1NN, E_dup2NN, E_goto, E_if_eq, E_if_ne, E_if_lt, E_if_ge, E_if_gt, E_if_le, E_ic_eq, E_ic_ne, E_ic_lt, E_ic_ge, E_ic_gt, E_ic_le, E_ifnull, E_ifnullN, E_ifnonnull, E_ifnonnullN, E_get, E_gf, E_xv, E_n0, E_ns, E_putI, E_putR, E_putN, E_pf, E_st0, E_sts, E_iaload, E_caload, E_laload, E_aaload, E_alen, E_iast, E_cast, E_last, E_xI, E_xJ, E_xQ, E_xN, E_lk, E_lkn, E_s1, E_s1h, E_s1I, E_s1R, E_s1N, E_s1L, E_s2, E_s2h, E_s2L, E_s2I, E_s2R, E_s2N, E_a1, E_a0, E_aI, E_aR, E_aN, E_aL, Option.isSome_some, eq_self, true_and, and_true, true_or, or_true, ne_eq, not_false_eq_true, not_true_eq_false, reduceIte, reduceCtorEq, Nat.reduceAdd, Nat.reduceBEq, Nat.reduceEqDiff, Option.toList_some, Option.toList_none, List.cons_append, List.nil_append]
  refine ⟨fun h => ?_, fun h => ?_⟩
  · refine sp_run hz _ _ e_Law_law_457 _ _ _ ?_
    simp only [k_Law_law_457, E_nil, E_iconst, E_bipush, E_sipush, E_ldc, E_ldc2, E_lconst, E_null, E_iload_n, E_lload_n, E_aload_n, E_istore_n, E_lstore_n, E_astore_n, E_astoreN_n, E_iload, E_lload, E_aload, E_istore, E_lstore, E_astore, E_astoreN, E_ldi, E_ldl, E_lda, E_ldN, E_iinc, E_iadd, E_isub, E_imul, E_iand, E_ior, E_ixor, E_ishl, E_ishr, E_idiv, E_irem, E_ineg, E_ladd, E_lsub, E_land, E_lor, E_lcmp, E_lshl, E_lshr, E_lushr, E_i2l, E_l2i, E_i2c, E_dupI, E_popI, E_dup_x1II, E_dup2II, E_dup_x1IR, E_dup2IR, E_dup_x1IN, E_dup2IN, E_dupR, E_popR, E_dup_x1RI, E_dup2RI, E_dup_x1RR, E_dup2RR, E_dup_x1RN, E_dup2RN, E_dupN, E_popN, E_dup_x1NI, E_dup2NI, E_dup_x1NR, E_dup2NR, E_dup_x1NN, E_dup2NN, E_goto, E_if_eq, E_if_ne, E_if_lt, E_if_ge, E_if_gt, E_if_le, E_ic_eq, E_ic_ne, E_ic_lt, E_ic_ge, E_ic_gt, E_ic_le, E_ifnull, E_ifnullN, E_ifnonnull, E_ifnonnullN, E_get, E_gf, E_xv, E_n0, E_ns, E_putI, E_putR, E_putN, E_pf, E_st0, E_sts, E_iaload, E_caload, E_laload, E_aaload, E_alen, E_iast, E_cast, E_last, E_xI, E_xJ, E_xQ, E_xN, E_lk, E_lkn, E_s1, E_s1h, E_s1I, E_s1R, E_s1N, E_s1L, E_s2, E_s2h, E_s2L, E_s2I, E_s2R, E_s2N, E_a1, E_a0, E_aI, E_aR, E_aN, E_aL, Option.isSome_some, eq_self, true_and, and_true, true_or, or_true, ne_eq, not_false_eq_true, not_true_eq_false, reduceIte, reduceCtorEq, Nat.reduceAdd, Nat.reduceBEq, Nat.reduceEqDiff, Option.toList_some, Option.toList_none, List.cons_append, List.nil_append]
    exact he _ _ _ _ (by omega) (by omega)
  · have h3 : 3 * k + 3 ≤ Ln := Nat.not_lt.mp fun q => h ((i_sub3 hLn hk).mpr q)
    have hK := hK h3
    refine l_sc hz hT (by omega) d_Law_law_35 ?_
    obtain ⟨c, hc, e⟩ := i_and7 (xs (3 * k))
    refine sp_run hz _ _ e_Law_law_36 _ _ _ ?_
    simp only [k_Law_law_36, E_nil, E_iconst, E_bipush, E_sipush, E_ldc, E_ldc2, E_lconst, E_null, E_iload_n, E_lload_n, E_aload_n, E_istore_n, E_lstore_n, E_astore_n, E_astoreN_n, E_iload, E_lload, E_aload, E_istore, E_lstore, E_astore, E_astoreN, E_ldi, E_ldl, E_lda, E_ldN, E_iinc, E_iadd, E_isub, E_imul, E_iand, E_ior, E_ixor, E_ishl, E_ishr, E_idiv, E_irem, E_ineg, E_ladd, E_lsub, E_land, E_lor, E_lcmp, E_lshl, E_lshr, E_lushr, E_i2l, E_l2i, E_i2c, E_dupI, E_popI, E_dup_x1II, E_dup2II, E_dup_x1IR, E_dup2IR, E_dup_x1IN, E_dup2IN, E_dupR, E_popR, E_dup_x1RI, E_dup2RI, E_dup_x1RR, E_dup2RR, E_dup_x1RN, E_dup2RN, E_dupN, E_popN, E_dup_x1NI, E_dup2NI, E_dup_x1NR, E_dup2NR, E_dup_x1NN, E_dup2NN, E_goto, E_if_eq, E_if_ne, E_if_lt, E_if_ge, E_if_gt, E_if_le, E_ic_eq, E_ic_ne, E_ic_lt, E_ic_ge, E_ic_gt, E_ic_le, E_ifnull, E_ifnullN, E_ifnonnull, E_ifnonnullN, E_get, E_gf, E_xv, E_n0, E_ns, E_putI, E_putR, E_putN, E_pf, E_st0, E_sts, E_iaload, E_caload, E_laload, E_aaload, E_alen, E_iast, E_cast, E_last, E_xI, E_xJ, E_xQ, E_xN, E_lk, E_lkn, E_s1, E_s1h, E_s1I, E_s1R, E_s1N, E_s1L, E_s2, E_s2h, E_s2L, E_s2I, E_s2R, E_s2N, E_a1, E_a0, E_aI, E_aR, E_aN, E_aL, Option.isSome_some, eq_self, true_and, and_true, true_or, or_true, ne_eq, not_false_eq_true, not_true_eq_false, reduceIte, reduceCtorEq, Nat.reduceAdd, Nat.reduceBEq, Nat.reduceEqDiff, Option.toList_some, Option.toList_none, List.cons_append, List.nil_append, e]
    have hc8 : c = 0 ∨ c = 1 ∨ c = 2 ∨ c = 3 ∨ c = 4 ∨ c = 5 ∨ c = 6 ∨ c = 7 := by omega
    have hk9 : k ≤ 511 := by omega
    rcases hc8 with rfl | rfl | rfl | rfl | rfl | rfl | rfl | rfl
    · exact sp_tsw hz (tgt := 84) d_Law_law_39 (by decide) (by decide) (l_c0 hz hT h3 hK hj)
    · exact sp_tsw hz (tgt := 141) d_Law_law_39 (by decide) (by decide) (l_c1 hz hk9 hK hj)
    · exact sp_tsw hz (tgt := 154) d_Law_law_39 (by decide) (by decide) (l_c2 hz hk9 hK hj)
    · exact sp_tsw hz (tgt := 167) d_Law_law_39 (by decide) (by decide) (l_c3 hz htr hT h3 hK hj)
    · exact sp_tsw hz (tgt := 223) d_Law_law_39 (by decide) (by decide) (l_c4 hz htr hT h3 hK hj)
    · exact sp_tsw hz (tgt := 259) d_Law_law_39 (by decide) (by decide) (l_c5 hz htr hT h3 hK hj)
    · exact sp_tsw hz (tgt := 327) d_Law_law_39 (by decide) (by decide) (l_c6 hz htr hT h3 hK hj)
    · exact sp_tsw hz (tgt := 395) d_Law_law_39 (by decide) (by decide) (l_c7 hz htr hT h3 hK hj)
theorem l_loop (hz : sp_C z l room_1 G M0 R_Law b_Law_law 7 rt) (htr : l.stackTraces = false) (hT : lTs z M0 b Ln xs) (he : ∀ (M : sp_M) (L : sp_L) (cs sl : Nat), cs ≤ 601024 → sl ≤ 7293034 → sp_W z G M0 Q 7 cs sl 458 L [.int 1] M) : ∀ (n k : Nat), n + k = 512 → lH z G M0 Q b k := by
  intro n
  induction n with
  | zero => exact fun k hk => l_step hz htr hT (by omega) he (fun h => by have := hT.2; omega)
  | succ n ih => exact fun k hk => l_step hz htr hT (by omega) he (fun _ => ih (k + 1) (by omega))
end LL
