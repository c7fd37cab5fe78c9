theorem ck_e_D (sh fl tk gn : Nat) (nw ol : Option Nat) (rm kl : Nat) : ck_e sh fl tk gn nw ol rm kl = ce sh (fl, tk, gn, rm, kl) nw ol := rfl
/-- the new chunks of a page: where nothing was, empty, their texts apart -/
def nws (G : sp_G) (M M1 : sp_M) (cc : Nat) (D1 : Nat → CD) (R1 : Nat → Nat) (ns : List Nat) : Prop :=
  (∀ (j x : Nat), ns[j]? = some x → M x = none ∧ M (D1 x).2.2.2.1 = none ∧ M (R1 x) = none ∧ (D1 x).1 = 0 ∧ (D1 x).2.1 = 0 ∧ (D1 x).2.2.1 = 2147483647 ∧ (D1 x).2.2.2.2 = 0 ∧ tx G M1 (D1 x).2.2.2.1 (R1 x) cc []) ∧
  ∀ (j k x y : Nat), ns[j]? = some x → ns[k]? = some y → x ≠ y → (D1 x).2.2.2.1 ≠ (D1 y).2.2.2.1 ∧ R1 x ≠ R1 y
def T_Shelf_addPage (G : sp_G) (cc cp : Nat) : sp_T := fun av M Post => ∃ (sh pg : Nat) (D : Nat → CD) (R : Nat → Nat) (os fr : List Nat), av = [.ref sh] ∧ shf M sh cc cp pg D os fr ∧ cc < 1000 ∧ cp < 1000 ∧
  ∀ (M' : sp_M) (D' : Nat → CD) (R' : Nat → Nat) (ns : List Nat), ns.length = cp → shf M' sh cc cp (pg + 1) D' os (ns ++ fr) → nws G M M' cc D' R' ns → (∀ q, M q ≠ none → D' q = D q ∧ R' q = R q) → (∀ q, M q ≠ none → q ≠ sh → M' q = M q) → Post none M'
set_option maxHeartbeats 4000000 in
set_option maxRecDepth 100000 in
theorem c_Shelf_addPage (l : Launch) (G : sp_G) (cc cp : Nat) : sp_Met l G y_Shelf_addPage b_Shelf_addPage 3 none { frames := 3, cells := 3 * cp, slots := (10 + cc) * cp, locals := 56 } (T_Shelf_addPage G cc cp) := by
  refine sp_entry (by decide) (fun av M Post h => ?_) (fun z M av Post hz hi hT => ?_)
  · obtain ⟨sh, pg, D, R, os, fr, rfl, -⟩ := h
    exact Nat.le_of_ble_eq_true rfl
  · obtain ⟨sh, pg, D, R, os, fr, rfl, hs, hcc, hcp, hp⟩ := hT
    have loop : ∀ k i M1 D1 R1 ns (L : sp_L), (L = (1, .int (nI i)) :: [(0, .ref sh)] ∨ ∃ y, L = (1, .int (nI i)) :: (2, .ref y) :: [(0, .ref sh)]) → cp - i = k → i ≤ cp → ns.length = i → shf M1 sh cc cp (pg + 1) D1 os (ns ++ fr) → nws G M M1 cc D1 R1 ns → (∀ q, M q ≠ none → D1 q = D q ∧ R1 q = R q) → (∀ q, M q ≠ none → q ≠ sh → M1 q = M q) →
        sp_W z G M (sp_Q z G M Post (3 * cp) ((10 + cc) * cp)) 3 (3 * i) ((10 + cc) * i) 12 L [] M1 := by
      intro k
      induction k with
      | zero =>
        intro i M1 D1 R1 ns L hL hk hil hn h1 h2 h3 h4
        have hi' : i = cp := by omega
        subst hi'
        refine sp_run hz _ _ e_Shelf_addPage_12 _ _ _ ?_
        have g1 := h1.1
        rcases hL with rfl | ⟨y, rfl⟩
        all_goals
          simp only [k_Shelf_addPage_12, E_nil, E_iconst, E_bipush, E_sipush, E_ldc, E_ldc2, E_lconst, E_null, E_iload_n, E_lload_n, E_aload_n, E_istore_n, E_lstore_n, E_astore_n, E_astoreN_n, E_iload, E_lload, E_aload, E_istore, E_lstore, E_astore, E_astoreN, E_ldi, E_ldl, E_lda, E_ldN, E_iinc, E_iadd, E_isub, E_imul, E_iand, E_ior, E_ixor, E_ishl, E_ishr, E_idiv, E_irem, E_ineg, E_ladd, E_lsub, E_land, E_lor, E_lcmp, E_lshl, E_lshr, E_lushr, E_i2l, E_l2i, E_i2c, E_dupI, E_popI, E_dup_x1II, E_dup2II, E_dup_x1IR, E_dup2IR, E_dup_x1IN, E_dup2IN, E_dupR, E_popR, E_dup_x1RI, E_dup2RI, E_dup_x1RR, E_dup2RR, E_dup_x1RN, E_dup2RN, E_dupN, E_popN, E_dup_x1NI, E_dup2NI, E_dup_x1NR, E_dup2NR, E_dup_x1NN, E_dup2NN, E_goto, E_if_eq, E_if_ne, E_if_lt, E_if_ge, E_if_gt, E_if_le, E_ic_eq, E_ic_ne, E_ic_lt, E_ic_ge, E_ic_gt, E_ic_le, E_ifnull, E_ifnullN, E_ifnonnull, E_ifnonnullN, E_get, E_gf, E_xv, E_n0, E_ns, E_putI, E_putR, E_putN, E_pf, E_st0, E_sts, E_iaload, E_caload, E_laload, E_aaload, E_alen, E_iast, E_cast, E_last, E_xI, E_xJ, E_xQ, E_xN, E_lk, E_lkn, E_s1, E_s1h, E_s1I, E_s1R, E_s1N, E_s1L, E_s2, E_s2h, E_s2L, E_s2I, E_s2R, E_s2N, E_a1, E_a0, E_aI, E_aR, E_aN, E_aL, Option.isSome_some, eq_self, true_and, and_true, true_or, or_true, ne_eq, not_false_eq_true, not_true_eq_false, reduceIte, reduceCtorEq, Nat.reduceAdd, Nat.reduceBEq, Nat.reduceEqDiff, Option.toList_some, Option.toList_none, List.cons_append, List.nil_append, g1, sg]
          refine ⟨fun _ => ?_, fun h => absurd (Int32.le_refl _) h⟩
          exact sp_vret hz d_Shelf_addPage_52 (Nat.le_refl _) (Nat.le_refl _) (hp M1 D1 R1 ns hn h1 h2 h3 h4)
      | succ k ih =>
        intro i M1 D1 R1 ns L hL hk hil hn h1 h2 h3 h4
        have g1 := h1.1
        have go : sp_W z G M (sp_Q z G M Post (3 * cp) ((10 + cc) * cp)) 3 (3 * i) ((10 + cc) * i) 20 L [] M1 := by
          have hmul : (10 + cc) * (i + 1) ≤ (10 + cc) * cp := Nat.mul_le_mul_left _ (by omega)
          have hms : (10 + cc) * (i + 1) = (10 + cc) * i + (10 + cc) := Nat.mul_succ _ _
          refine sp_new hz (ci := 1) (fs := [.null, .int 0, .int 0, .int 0, .null, .null, .null, .int 0]) rfl n_Shelf_32 nf_Chunk (by show 3 * i + 1 ≤ 3 * cp; omega) (by show (10 + cc) * i + 8 ≤ (10 + cc) * cp; omega) d_Shelf_addPage_20 (fun c hc => ?_)
          have hcs : c ≠ sh := fun e => by
            rw [e, g1] at hc
            cases hc
          have hcM : M c = none := by
            cases hm : M c with
            | none => rfl
            | some e =>
              have := h4 c (by rw [hm]; exact fun h => by cases h) hcs
              rw [hc, hm] at this
              cases this
          have g1' : sp_u M1 c (.inr (1, [.null, .int 0, .int 0, .int 0, .null, .null, .null, .int 0])) sh = some (sg cc cp (pg + 1) os.length (ns ++ fr)[0]? os[0]? (pv os os.length)) := by
            rw [sp_u_n _ _ (Ne.symm hcs), g1]
          have call : sp_W z G M (sp_Q z G M Post (3 * cp) ((10 + cc) * cp)) 3 (3 * i + 1) ((10 + cc) * i + 8) 29 L [.int (nI cc), .ref sh, .ref c, .ref c] (sp_u M1 c (.inr (1, [.null, .int 0, .int 0, .int 0, .null, .null, .null, .int 0]))) := by
            refine sp_callI hz (c_Chunk_init l G cc) (b := c) (As := [.ref sh, .int (nI cc)]) (rest := [.ref c]) w_Shelf_34 (sp_rmI (Nat.le_of_ble_eq_true rfl) (Nat.le_of_ble_eq_true rfl) (by show 3 * i + 1 + 2 ≤ 3 * cp; omega) (by show (10 + cc) * i + 8 + (2 + cc) ≤ (10 + cc) * cp; omega)) rfl (Nat.le_of_ble_eq_true rfl) d_Shelf_addPage_29 ⟨c, sh, rfl, sp_u_s _ _ _, hcc, fun M2 rm rch q1 q2 hck o2 => ?_⟩ rfl
            have rmc : rm ≠ c := fun e => by
              rw [e, sp_u_s] at q1
              cases q1
            have rchc : rch ≠ c := fun e => by
              rw [e, sp_u_s] at q2
              cases q2
            rw [sp_u_n _ _ rmc] at q1
            rw [sp_u_n _ _ rchc] at q2
            have rms : rm ≠ sh := fun e => by
              rw [e, g1] at q1
              cases q1
            have rchs : rch ≠ sh := fun e => by
              rw [e, g1] at q2
              cases q2
            have none_of : ∀ q, M1 q = none → q ≠ sh → M q = none := fun q hq hqs => by
              cases hm : M q with
              | none => rfl
              | some e =>
                have := h4 q (by rw [hm]; exact fun h => by cases h) hqs
                rw [hq, hm] at this
                cases this
            have s2 : M2 sh = some (sg cc cp (pg + 1) os.length (ns ++ fr)[0]? os[0]? (pv os os.length)) := by
              rw [o2 sh (Ne.symm hcs) (Ne.symm rms) (Ne.symm rchs), g1']
            have keep2 : ∀ q e, M1 q = some e → q ≠ sh → M2 q = some e := fun q e hq hqs => by
              have qc : q ≠ c := fun h => by
                rw [h, hc] at hq
                cases hq
              have qr : q ≠ rm := fun h => by
                rw [h, q1] at hq
                cases hq
              have qh : q ≠ rch := fun h => by
                rw [h, q2] at hq
                cases hq
              rw [o2 q qc qr qh, sp_u_n _ _ qc, hq]
            obtain ⟨b1, b2, b3, b4, b5, b6⟩ := h1
            have hci : ni c os := fun j hj => by
              have := b2 j c hj
              rw [hc] at this
              cases this
            have hcf : ni c (ns ++ fr) := fun j hj => by
              obtain ⟨nw, this⟩ := b3 j c hj
              rw [hc] at this
              cases this
            have ckc := hck.1
            have fin : ∀ M3 : sp_M, M3 c = some (ce sh (0, 0, 2147483647, rm, 0) none (ns ++ fr)[0]?) → M3 sh = some (sg cc cp (pg + 1) os.length (some c) os[0]? (pv os os.length)) → (∀ q, q ≠ c → q ≠ sh → M3 q = M2 q) →
                sp_W z G M (sp_Q z G M Post (3 * cp) ((10 + cc) * cp)) 3 (3 * (i + 1)) ((10 + cc) * (i + 1)) 12 [(1, .int (nI (i + 1))), (2, .ref c), (0, .ref sh)] [] M3 := by
              intro M3 f1 f2 f3
              have D2c : ∀ q, q ≠ c → (fun q => if q = c then ((0, 0, 2147483647, rm, 0) : CD) else D1 q) q = D1 q := fun q hq => if_neg hq
              have D2s : (fun q => if q = c then ((0, 0, 2147483647, rm, 0) : CD) else D1 q) c = (0, 0, 2147483647, rm, 0) := if_pos rfl
              have R2c : ∀ q, q ≠ c → (fun q => if q = c then rch else R1 q) q = R1 q := fun q hq => if_neg hq
              have R2s : (fun q => if q = c then rch else R1 q) c = rch := if_pos rfl
              have old3 : ∀ q e, M1 q = some e → q ≠ sh → M3 q = some e := fun q e hq hqs => by
                rw [f3 q (fun h => by rw [h, hc] at hq; cases hq) hqs]
                exact keep2 q e hq hqs
              have txo : ∀ t ch s, tx G M1 t ch cc s → tx G M3 t ch cc s := fun t ch s ht => by
                obtain ⟨x1, -, -, -, f, x5, -⟩ := id ht
                refine ht.keep ?_ ?_
                · rw [old3 t _ x1 (fun h => by rw [h, g1] at x1; cases x1), x1]
                · rw [old3 ch _ x5 (fun h => by rw [h, g1] at x5; cases x5), x5]
              refine ih (i + 1) M3 (fun q => if q = c then (0, 0, 2147483647, rm, 0) else D1 q) (fun q => if q = c then rch else R1 q) (c :: ns) _ (Or.inr ⟨_, rfl⟩) (by omega) (by omega) (by rw [List.length_cons, hn]) ⟨f2, ?_, ?_, b4, nd_cons b5 hcf, ?_⟩ ⟨?_, ?_⟩ ?_ ?_
              · intro j x hj
                have xc : x ≠ c := fun e => hci j (by rw [← e]; exact hj)
                rw [D2c x xc]
                exact old3 x _ (b2 j x hj) (fun e => ce_ne (b2 j x hj) g1 e)
              · intro j x hj
                cases j with
                | zero =>
                  rw [List.cons_append, List.getElem?_cons_zero] at hj
                  cases hj
                  rw [D2s]
                  exact ⟨none, by rw [List.cons_append, List.getElem?_cons_succ]; exact f1⟩
                | succ j =>
                  rw [List.cons_append, List.getElem?_cons_succ] at hj
                  have xc : x ≠ c := fun e => hcf j (by rw [← e]; exact hj)
                  obtain ⟨nw, hx⟩ := b3 j x hj
                  rw [D2c x xc]
                  exact ⟨nw, by rw [List.cons_append, List.getElem?_cons_succ]; exact old3 x _ hx (fun e => ce_ne hx g1 e)⟩
              · intro j x hj m hm
                cases m with
                | zero =>
                  rw [List.cons_append, List.getElem?_cons_zero] at hm
                  cases hm
                  exact hci j hj
                | succ m =>
                  rw [List.cons_append, List.getElem?_cons_succ] at hm
                  exact b6 j x hj m hm
              · intro j x hj
                cases j with
                | zero =>
                  rw [List.getElem?_cons_zero] at hj
                  cases hj
                  rw [D2s, R2s]
                  refine ⟨hcM, none_of rm q1 rms, none_of rch q2 rchs, rfl, rfl, rfl, rfl, ?_⟩
                  exact hck.2.keep (f3 rm rmc rms) (f3 rch rchc rchs)
                | succ j =>
                  rw [List.getElem?_cons_succ] at hj
                  obtain ⟨y1, y2, y3, y4, y5, y6, y7, y8⟩ := h2.1 j x hj
                  have xc : x ≠ c := fun e => by
                    have hj' : (ns ++ fr)[j]? = some x := by
                      rw [List.getElem?_append_left (List.getElem?_eq_some_iff.mp hj).1]
                      exact hj
                    exact hcf j (by rw [← e]; exact hj')
                  rw [D2c x xc, R2c x xc]
                  exact ⟨y1, y2, y3, y4, y5, y6, y7, txo _ _ _ y8⟩
              · have key : ∀ (j x : Nat), ns[j]? = some x → x ≠ c ∧ (D1 x).2.2.2.1 ≠ rm ∧ R1 x ≠ rch := fun j x hj => by
                  have hj' : (ns ++ fr)[j]? = some x := by
                    rw [List.getElem?_append_left (List.getElem?_eq_some_iff.mp hj).1]
                    exact hj
                  obtain ⟨y1, y2, y3, y4, y5, y6, y7, x1, -, -, -, f, x5, -⟩ := h2.1 j x hj
                  refine ⟨fun e => hcf j (by rw [← e]; exact hj'), fun e => ?_, fun e => ?_⟩
                  · rw [e, q1] at x1
                    cases x1
                  · rw [e, q2] at x5
                    cases x5
                intro j m x y hj hm hxy
                cases j with
                | zero =>
                  rw [List.getElem?_cons_zero] at hj
                  cases hj
                  cases m with
                  | zero =>
                    rw [List.getElem?_cons_zero] at hm
                    cases hm
                    exact absurd rfl hxy
                  | succ m =>
                    rw [List.getElem?_cons_succ] at hm
                    obtain ⟨z1, z2, z3⟩ := key m y hm
                    rw [D2s, R2s, D2c y z1, R2c y z1]
                    exact ⟨Ne.symm z2, Ne.symm z3⟩
                | succ j =>
                  rw [List.getElem?_cons_succ] at hj
                  obtain ⟨z1, z2, z3⟩ := key j x hj
                  cases m with
                  | zero =>
                    rw [List.getElem?_cons_zero] at hm
                    cases hm
                    rw [D2s, R2s, D2c x z1, R2c x z1]
                    exact ⟨z2, z3⟩
                  | succ m =>
                    rw [List.getElem?_cons_succ] at hm
                    obtain ⟨w1, w2, w3⟩ := key m y hm
                    rw [D2c x z1, R2c x z1, D2c y w1, R2c y w1]
                    exact h2.2 j m x y hj hm hxy
              · intro q hq
                have qc : q ≠ c := fun e => hq (by rw [e]; exact hcM)
                refine ⟨(D2c q qc).trans (h3 q hq).1, (R2c q qc).trans (h3 q hq).2⟩
              · intro q hq hqs
                have qc : q ≠ c := fun e => hq (by rw [e]; exact hcM)
                rw [f3 q qc hqs]
                cases hm : M q with
                | none => exact absurd hm hq
                | some e =>
                  exact keep2 q e (by rw [h4 q hq hqs, hm]) hqs
            refine sp_widen (k := 3 * (i + 1)) (n := (10 + cc) * (i + 1)) (by show 3 * i + 1 + 2 ≤ _; omega) (by show (10 + cc) * i + 8 + (2 + cc) ≤ _; omega) ?_
            refine sp_run hz _ _ e_Shelf_addPage_32 _ _ _ ?_
            have ckc' : M2 c = some (.inr (1, [.ref sh, .int (nI 0), .int (nI 0), .int (nI 2147483647), va_rf none, va_rf none, .ref rm, .int (nI 0)])) := ckc
            cases hf : (ns ++ fr)[0]? with
            | none =>
              rw [hf] at s2 fin
              rcases hL with rfl | ⟨y, rfl⟩
              all_goals
                simp only [k_Shelf_addPage_32, E_nil, E_iconst, E_bipush, E_sipush, E_ldc, E_ldc2, E_lconst, E_null, E_iload_n, E_lload_n, E_aload_n, E_istore_n, E_lstore_n, E_astore_n, E_astoreN_n, E_iload, E_lload, E_aload, E_istore, E_lstore, E_astore, E_astoreN, E_ldi, E_ldl, E_lda, E_ldN, E_iinc, E_iadd, E_isub, E_imul, E_iand, E_ior, E_ixor, E_ishl, E_ishr, E_idiv, E_irem, E_ineg, E_ladd, E_lsub, E_land, E_lor, E_lcmp, E_lshl, E_lshr, E_lushr, E_i2l, E_l2i, E_i2c, E_dupI, E_popI, E_dup_x1II, E_dup2II, E_dup_x1IR, E_dup2IR, E_dup_x1IN, E_dup2IN, E_dupR, E_popR, E_dup_x1RI, E_dup2RI, E_dup_x1RR, E_dup2RR, E_dup_x1RN, E_dup2RN, E_dupN, E_popN, E_dup_x1NI, E_dup2NI, E_dup_x1NR, E_dup2NR, E_dup_x1NN, E_dup2NN, E_goto, E_if_eq, E_if_ne, E_if_lt, E_if_ge, E_if_gt, E_if_le, E_ic_eq, E_ic_ne, E_ic_lt, E_ic_ge, E_ic_gt, E_ic_le, E_ifnull, E_ifnullN, E_ifnonnull, E_ifnonnullN, E_get, E_gf, E_xv, E_n0, E_ns, E_putI, E_putR, E_putN, E_pf, E_st0, E_sts, E_iaload, E_caload, E_laload, E_aaload, E_alen, E_iast, E_cast, E_last, E_xI, E_xJ, E_xQ, E_xN, E_lk, E_lkn, E_s1, E_s1h, E_s1I, E_s1R, E_s1N, E_s1L, E_s2, E_s2h, E_s2L, E_s2I, E_s2R, E_s2N, E_a1, E_a0, E_aI, E_aR, E_aN, E_aL, Option.isSome_some, eq_self, true_and, and_true, true_or, or_true, ne_eq, not_false_eq_true, not_true_eq_false, reduceIte, reduceCtorEq, Nat.reduceAdd, Nat.reduceBEq, Nat.reduceEqDiff, Option.toList_some, Option.toList_none, List.cons_append, List.nil_append, s2, ckc', sg, sp_u_s, sp_u_n _ _ hcs, sp_u_n _ _ (Ne.symm hcs), rf_n, nI_1]
                refine fin _ ?_ ?_ ?_
                · rw [sp_u_n _ _ hcs, sp_u_s]
                  rfl
                · rw [sp_u_s]
                  rfl
                · intro q p1 p2
                  rw [sp_u_n _ _ p2, sp_u_n _ _ p1]
            | some y0 =>
              rw [hf] at s2 fin
              rcases hL with rfl | ⟨y, rfl⟩
              all_goals
                simp only [k_Shelf_addPage_32, E_nil, E_iconst, E_bipush, E_sipush, E_ldc, E_ldc2, E_lconst, E_null, E_iload_n, E_lload_n, E_aload_n, E_istore_n, E_lstore_n, E_astore_n, E_astoreN_n, E_iload, E_lload, E_aload, E_istore, E_lstore, E_astore, E_astoreN, E_ldi, E_ldl, E_lda, E_ldN, E_iinc, E_iadd, E_isub, E_imul, E_iand, E_ior, E_ixor, E_ishl, E_ishr, E_idiv, E_irem, E_ineg, E_ladd, E_lsub, E_land, E_lor, E_lcmp, E_lshl, E_lshr, E_lushr, E_i2l, E_l2i, E_i2c, E_dupI, E_popI, E_dup_x1II, E_dup2II, E_dup_x1IR, E_dup2IR, E_dup_x1IN, E_dup2IN, E_dupR, E_popR, E_dup_x1RI, E_dup2RI, E_dup_x1RR, E_dup2RR, E_dup_x1RN, E_dup2RN, E_dupN, E_popN, E_dup_x1NI, E_dup2NI, E_dup_x1NR, E_dup2NR, E_dup_x1NN, E_dup2NN, E_goto, E_if_eq, E_if_ne, E_if_lt, E_if_ge, E_if_gt, E_if_le, E_ic_eq, E_ic_ne, E_ic_lt, E_ic_ge, E_ic_gt, E_ic_le, E_ifnull, E_ifnullN, E_ifnonnull, E_ifnonnullN, E_get, E_gf, E_xv, E_n0, E_ns, E_putI, E_putR, E_putN, E_pf, E_st0, E_sts, E_iaload, E_caload, E_laload, E_aaload, E_alen, E_iast, E_cast, E_last, E_xI, E_xJ, E_xQ, E_xN, E_lk, E_lkn, E_s1, E_s1h, E_s1I, E_s1R, E_s1N, E_s1L, E_s2, E_s2h, E_s2L, E_s2I, E_s2R, E_s2N, E_a1, E_a0, E_aI, E_aR, E_aN, E_aL, Option.isSome_some, eq_self, true_and, and_true, true_or, or_true, ne_eq, not_false_eq_true, not_true_eq_false, reduceIte, reduceCtorEq, Nat.reduceAdd, Nat.reduceBEq, Nat.reduceEqDiff, Option.toList_some, Option.toList_none, List.cons_append, List.nil_append, s2, ckc', sg, sp_u_s, sp_u_n _ _ hcs, sp_u_n _ _ (Ne.symm hcs), rf_n, rf_s, nI_1]
                refine fin _ ?_ ?_ ?_
                · rw [sp_u_n _ _ hcs, sp_u_s]
                  rfl
                · rw [sp_u_s]
                  rfl
                · intro q p1 p2
                  rw [sp_u_n _ _ p2, sp_u_n _ _ p1]
          refine sp_run hz _ _ e_Shelf_addPage_23 _ _ _ ?_
          rcases hL with rfl | ⟨y, rfl⟩
          all_goals
            simp only [k_Shelf_addPage_23, E_nil, E_iconst, E_bipush, E_sipush, E_ldc, E_ldc2, E_lconst, E_null, E_iload_n, E_lload_n, E_aload_n, E_istore_n, E_lstore_n, E_astore_n, E_astoreN_n, E_iload, E_lload, E_aload, E_istore, E_lstore, E_astore, E_astoreN, E_ldi, E_ldl, E_lda, E_ldN, E_iinc, E_iadd, E_isub, E_imul, E_iand, E_ior, E_ixor, E_ishl, E_ishr, E_idiv, E_irem, E_ineg, E_ladd, E_lsub, E_land, E_lor, E_lcmp, E_lshl, E_lshr, E_lushr, E_i2l, E_l2i, E_i2c, E_dupI, E_popI, E_dup_x1II, E_dup2II, E_dup_x1IR, E_dup2IR, E_dup_x1IN, E_dup2IN, E_dupR, E_popR, E_dup_x1RI, E_dup2RI, E_dup_x1RR, E_dup2RR, E_dup_x1RN, E_dup2RN, E_dupN, E_popN, E_dup_x1NI, E_dup2NI, E_dup_x1NR, E_dup2NR, E_dup_x1NN, E_dup2NN, E_goto, E_if_eq, E_if_ne, E_if_lt, E_if_ge, E_if_gt, E_if_le, E_ic_eq, E_ic_ne, E_ic_lt, E_ic_ge, E_ic_gt, E_ic_le, E_ifnull, E_ifnullN, E_ifnonnull, E_ifnonnullN, E_get, E_gf, E_xv, E_n0, E_ns, E_putI, E_putR, E_putN, E_pf, E_st0, E_sts, E_iaload, E_caload, E_laload, E_aaload, E_alen, E_iast, E_cast, E_last, E_xI, E_xJ, E_xQ, E_xN, E_lk, E_lkn, E_s1, E_s1h, E_s1I, E_s1R, E_s1N, E_s1L, E_s2, E_s2h, E_s2L, E_s2I, E_s2R, E_s2N, E_a1, E_a0, E_aI, E_aR, E_aN, E_aL, Option.isSome_some, eq_self, true_and, and_true, true_or, or_true, ne_eq, not_false_eq_true, not_true_eq_false, reduceIte, reduceCtorEq, Nat.reduceAdd, Nat.reduceBEq, Nat.reduceEqDiff, Option.toList_some, Option.toList_none, List.cons_append, List.nil_append, g1', sg]
            exact call
        refine sp_run hz _ _ e_Shelf_addPage_12 _ _ _ ?_
        rcases hL with rfl | ⟨y, rfl⟩
        all_goals
          simp only [k_Shelf_addPage_12, E_nil, E_iconst, E_bipush, E_sipush, E_ldc, E_ldc2, E_lconst, E_null, E_iload_n, E_lload_n, E_aload_n, E_istore_n, E_lstore_n, E_astore_n, E_astoreN_n, E_iload, E_lload, E_aload, E_istore, E_lstore, E_astore, E_astoreN, E_ldi, E_ldl, E_lda, E_ldN, E_iinc, E_iadd, E_isub, E_imul, E_iand, E_ior, E_ixor, E_ishl, E_ishr, E_idiv, E_irem, E_ineg, E_ladd, E_lsub, E_land, E_lor, E_lcmp, E_lshl, E_lshr, E_lushr, E_i2l, E_l2i, E_i2c, E_dupI, E_popI, E_dup_x1II, E_dup2II, E_dup_x1IR, E_dup2IR, E_dup_x1IN, E_dup2IN, E_dupR, E_popR, E_dup_x1RI, E_dup2RI, E_dup_x1RR, E_dup2RR, E_dup_x1RN, E_dup2RN, E_dupN, E_popN, E_dup_x1NI, E_dup2NI, E_dup_x1NR, E_dup2NR, E_dup_x1NN, E_dup2NN, E_goto, E_if_eq, E_if_ne, E_if_lt, E_if_ge, E_if_gt, E_if_le, E_ic_eq, E_ic_ne, E_ic_lt, E_ic_ge, E_ic_gt, E_ic_le, E_ifnull, E_ifnullN, E_ifnonnull, E_ifnonnullN, E_get, E_gf, E_xv, E_n0, E_ns, E_putI, E_putR, E_putN, E_pf, E_st0, E_sts, E_iaload, E_caload, E_laload, E_aaload, E_alen, E_iast, E_cast, E_last, E_xI, E_xJ, E_xQ, E_xN, E_lk, E_lkn, E_s1, E_s1h, E_s1I, E_s1R, E_s1N, E_s1L, E_s2, E_s2h, E_s2L, E_s2I, E_s2R, E_s2N, E_a1, E_a0, E_aI, E_aR, E_aN, E_aL, Option.isSome_some, eq_self, true_and, and_true, true_or, or_true, ne_eq, not_false_eq_true, not_true_eq_false, reduceIte, reduceCtorEq, Nat.reduceAdd, Nat.reduceBEq, Nat.reduceEqDiff, Option.toList_some, Option.toList_none, List.cons_append, List.nil_append, g1, sg]
          exact ⟨fun h => absurd ((nI_leI (by omega) (by omega)).mp h) (by omega), fun _ => go⟩
    have hoe := hs.os_ne
    have hfe := hs.fr_ne
    obtain ⟨a1, a2, a3, a4, a5, a6⟩ := hs
    refine sp_run hz _ _ e_Shelf_addPage_0 _ _ _ ?_
    simp only [k_Shelf_addPage_0, E_nil, E_iconst, E_bipush, E_sipush, E_ldc, E_ldc2, E_lconst, E_null, E_iload_n, E_lload_n, E_aload_n, E_istore_n, E_lstore_n, E_astore_n, E_astoreN_n, E_iload, E_lload, E_aload, E_istore, E_lstore, E_astore, E_astoreN, E_ldi, E_ldl, E_lda, E_ldN, E_iinc, E_iadd, E_isub, E_imul, E_iand, E_ior, E_ixor, E_ishl, E_ishr, E_idiv, E_irem, E_ineg, E_ladd, E_lsub, E_land, E_lor, E_lcmp, E_lshl, E_lshr, E_lushr, E_i2l, E_l2i, E_i2c, E_dupI, E_popI, E_dup_x1II, E_dup2II, E_dup_x1IR, E_dup2IR, E_dup_x1IN, E_dup2IN, E_dupR, E_popR, E_dup_x1RI, E_dup2RI, E_dup_x1RR, E_dup2RR, E_dup_x1RN, E_dup2RN, E_dupN, E_popN, E_dup_x1NI, E_dup2NI, E_dup_x1NR, E_dup2NR, E_dup_x1NN, E_dup2NN, E_goto, E_if_eq, E_if_ne, E_if_lt, E_if_ge, E_if_gt, E_if_le, E_ic_eq, E_ic_ne, E_ic_lt, E_ic_ge, E_ic_gt, E_ic_le, E_ifnull, E_ifnullN, E_ifnonnull, E_ifnonnullN, E_get, E_gf, E_xv, E_n0, E_ns, E_putI, E_putR, E_putN, E_pf, E_st0, E_sts, E_iaload, E_caload, E_laload, E_aaload, E_alen, E_iast, E_cast, E_last, E_xI, E_xJ, E_xQ, E_xN, E_lk, E_lkn, E_s1, E_s1h, E_s1I, E_s1R, E_s1N, E_s1L, E_s2, E_s2h, E_s2L, E_s2I, E_s2R, E_s2N, E_a1, E_a0, E_aI, E_aR, E_aN, E_aL, Option.isSome_some, eq_self, true_and, and_true, true_or, or_true, ne_eq, not_false_eq_true, not_true_eq_false, reduceIte, reduceCtorEq, Nat.reduceAdd, Nat.reduceBEq, Nat.reduceEqDiff, Option.toList_some, Option.toList_none, List.cons_append, List.nil_append, a1, sg, nI_1]
    refine loop cp 0 _ D R [] _ (Or.inl rfl) rfl (Nat.zero_le _) rfl ⟨?_, ?_, ?_, a4, a5, a6⟩ ⟨(fun j x h => by cases h), (fun j k x y h => by cases h)⟩ (fun q _ => ⟨rfl, rfl⟩) ?_
    · rw [sp_u_s]
      rfl
    · exact a2.keep (fun i x hi => sp_u_n _ _ (fun e => hoe i (by rw [← e]; exact hi)))
    · exact a3.keep (fun i x hi => sp_u_n _ _ (fun e => hfe i (by rw [← e]; exact hi)))
    · intro q _ q2
      exact sp_u_n _ _ q2
