section SPQ
variable {z : sp_Z} {G : sp_G} {M0 M : sp_M} {Q : State → Prop} {own : String} {cc : ByteArray} {nL cs sl pc index a : Nat} {L : sp_L} {st rest : List Value} {l : Launch} {R0 : Room} {ret : Option FieldType}
/-- a row of shelves, new -/
theorem sp_anew (hz : sp_C z l R0 G M0 own cc nL ret) (hw : Cond.classLink own index "SlabPantry$Shelf" ∈ sp_TB) (hcs : cs + 1 ≤ R0.cells) (hsl : sl + 4 ≤ R0.slots) (hdg : decode cc pc = .ok (.anewarray index, 3))
    (kk : ∀ q, M q = none → sp_W z G M0 Q nL (cs + 1) (sl + 4) (pc + 3) L (.ref q :: rest) (sp_u M q (.inl (G.2.1 3, 4, .inr (.inr (.inr (.inr (fun _ => none)))))))) : sp_W z G M0 Q nL cs sl pc L (.int 4 :: rest) M := by
  obtain ⟨hx, hbc, hml, hown, hts, -, -, hE, hzl, hzr⟩ := hz
  subst hzl
  subst hzr
  intro H locs ls hl hP hA hS
  have hAO := hE.2.2.2.2.2.2.2.2.2.2.2.1
  refine W.anew hx hbc hown (hts _ hw) hAO.use rfl hdg rfl (by decide) (by decide) hcs hsl fun cA kA comp h1 h2 h3 h4 => ?_
  obtain ⟨kA', comp', k1, k2, k3, k4⟩ := (hE.K.2 3 _ rfl).2
  have hcA : cA = G.2.1 3 := Option.some.inj (h1.symm.trans k4)
  subst hcA
  have o1 : ∀ q : Nat, q < H.size → (H.push { cls := G.2.1 3, slots := Array.replicate ((4 : Int32).toNatClampNeg) Value.null, vm := .none })[q]? = H[q]? := fun q hq => by
    rw [Array.getElem?_push, if_neg (by omega)]
  refine kk H.size (sp_fresh hP) _ locs ls hl (hP.push ?_ (Nat.le_refl _) o1) (sp_A_u hA (Or.inr hS.1)) ⟨Nat.le_trans hS.1 (by rw [Array.size_push]; omega), fun x h1 h2 => (o1 x (Nat.lt_of_lt_of_le h1 hS.1)).trans (hS.2.1 x h1 h2), hS.2.2⟩
  show (H.push _)[H.size]? = some (vp_cell _ _)
  rw [Array.getElem?_push, if_pos rfl]
  rfl
theorem sp_aast (hz : sp_C z l R0 G M0 own cc nL ret) {v n : Nat} {vs : List Value} {f : Nat → Option Nat} (hM : M a = some (.inl (G.2.1 3, n, .inr (.inr (.inr (.inr f)))))) (hv : M v = some (.inr (2, vs))) {i : Int32} (hin : vp_in i n) (hdg : decode cc pc = .ok (.aastore, 1))
    (kk : sp_W z G M0 Q nL cs sl (pc + 1) L rest (sp_u M a (.inl (G.2.1 3, n, .inr (.inr (.inr (.inr (va_up f i.toNatClampNeg (some v))))))))) : sp_W z G M0 Q nL cs sl pc L (.ref v :: .int i :: .ref a :: rest) M := by
  obtain ⟨hx, hbc, hml, hown, hts, -, -, hE, hzl, hzr⟩ := hz
  intro H locs ls hl hP hA hS
  have hlt : i.toNatClampNeg < n := Nat.not_le.mp fun q => hin (Or.inr q)
  have h0 : ¬ i < 0 := fun q => hin (Or.inl q)
  obtain ⟨r', hr', cellV, g1, g2, g3, -⟩ := hP v _ hv
  have hcls := (hE.K.1 2 _ rfl).2
  obtain ⟨kA, comp, k1, k2, k3, -⟩ := (hE.K.2 3 _ rfl).2
  have hcomp : comp = G.1.1 2 := Option.some.inj (k3.symm.trans hcls.1)
  subst hcomp
  obtain ⟨kC, hkC, hkk⟩ := hcls.2
  refine W.aast hx hbc (hP a _ hM) (fun q h => by cases h) (fun h => by cases h) k1 k2 rfl hkC ⟨h0, by show _ < (arrV _ _ _).slots.size; rw [arrV_size]; exact hlt⟩ g1 (fun q h => by rw [g3] at h; cases h) (by rw [g2]; exact hkC) (by rw [g2]; exact va_assign hcls) rfl rfl hdg fun H1 e z1 oq => ?_
  refine kk H1 _ ls hl (hP.set ?_ oq) (sp_A_u hA (hA a _ hM)) (hS.put z1 oq (hA a _ hM))
  show H1[a]? = some (vp_cell _ _)
  rw [e]
  rw [vp_cell_q, vp_cell_q, arrV_store]
  congr 2
  funext q
  by_cases hq : q = i.toNatClampNeg
  · subst hq
    simp [updV, va_up, va_rf]
  · simp [updV, va_up, hq]
/-- a row, told anew -/
theorem sp_re {cA : ClassId} {x y : vp_A} (hM : M a = some (.inl (cA, x))) (he : vp_cell cA x = vp_cell cA y) (kk : sp_W z G M0 Q nL cs sl pc L st (sp_u M a (.inl (cA, y)))) : sp_W z G M0 Q nL cs sl pc L st M := fun H locs ls hl hP hA hS => by
  refine kk H locs ls hl (hP.set ?_ (fun _ _ => rfl)) (sp_A_u hA (hA a _ hM)) hS
  show H[a]? = some (vp_cell cA y)
  rw [← he]
  exact hP a _ hM
end SPQ
def T_Shelf_init (G : sp_G) : sp_T := fun av M Post => ∃ sh cc cp, av = [.ref sh, .int (nI cc), .int (nI cp)] ∧ M sh = some (.inr (2, [.int 0, .int 0, .int 0, .int 0, .null, .null, .null])) ∧ ∀ M', M' sh = some (sg cc cp 0 0 none none none) → (∀ q, q ≠ sh → M' q = M q) → Post none M'
set_option maxHeartbeats 4000000 in
set_option maxRecDepth 100000 in
theorem c_Shelf_init (l : Launch) (G : sp_G) : sp_Met l G y_Shelf_init b_Shelf_init 3 none { frames := 1, locals := 12 } (T_Shelf_init G) := by
  refine sp_entry (by decide) (fun av M Post h => ?_) (fun z M av Post hz hi hT => ?_)
  · obtain ⟨sh, cc, cp, rfl, -⟩ := h
    exact Nat.le_of_ble_eq_true rfl
  · obtain ⟨sh, cc, cp, rfl, h1, hp⟩ := hT
    refine sp_run hz _ _ e_Shelf_init_0 _ _ _ ?_
    simp only [k_Shelf_init_0, E_nil, E_iconst, E_bipush, E_sipush, E_ldc, E_ldc2, E_lconst, E_null, E_iload_n, E_lload_n, E_aload_n, E_istore_n, E_lstore_n, E_astore_n, E_astoreN_n, E_iload, E_lload, E_aload, E_istore, E_lstore, E_astore, E_astoreN, E_ldi, E_ldl, E_lda, E_ldN, E_iinc, E_iadd, E_isub, E_imul, E_iand, E_ior, E_ixor, E_ishl, E_ishr, E_idiv, E_irem, E_ineg, E_ladd, E_lsub, E_land, E_lor, E_lcmp, E_lshl, E_lshr, E_lushr, E_i2l, E_l2i, E_i2c, E_dupI, E_popI, E_dup_x1II, E_dup2II, E_dup_x1IR, E_dup2IR, E_dup_x1IN, E_dup2IN, E_dupR, E_popR, E_dup_x1RI, E_dup2RI, E_dup_x1RR, E_dup2RR, E_dup_x1RN, E_dup2RN, E_dupN, E_popN, E_dup_x1NI, E_dup2NI, E_dup_x1NR, E_dup2NR, E_dup_x1NN, E_dup2NN, E_goto, E_if_eq, E_if_ne, E_if_lt, E_if_ge, E_if_gt, E_if_le, E_ic_eq, E_ic_ne, E_ic_lt, E_ic_ge, E_ic_gt, E_ic_le, E_ifnull, E_ifnullN, E_ifnonnull, E_ifnonnullN, E_get, E_gf, E_xv, E_n0, E_ns, E_putI, E_putR, E_putN, E_pf, E_st0, E_sts, E_iaload, E_caload, E_laload, E_aaload, E_alen, E_iast, E_cast, E_last, E_xI, E_xJ, E_xQ, E_xN, E_lk, E_lkn, E_s1, E_s1h, E_s1I, E_s1R, E_s1N, E_s1L, E_s2, E_s2h, E_s2L, E_s2I, E_s2R, E_s2N, E_a1, E_a0, E_aI, E_aR, E_aN, E_aL, Option.isSome_some, eq_self, true_and, and_true, true_or, or_true, ne_eq, not_false_eq_true, not_true_eq_false, reduceIte, reduceCtorEq, Nat.reduceAdd, Nat.reduceBEq, Nat.reduceEqDiff, Option.toList_some, Option.toList_none, List.cons_append, List.nil_append]
    refine sp_objI hz w_Shelf_1 (Nat.le_of_ble_eq_true rfl) (Nat.le_of_ble_eq_true rfl) d_Shelf_init_1 ?_
    refine sp_run hz _ _ e_Shelf_init_4 _ _ _ ?_
    simp only [k_Shelf_init_4, E_nil, E_iconst, E_bipush, E_sipush, E_ldc, E_ldc2, E_lconst, E_null, E_iload_n, E_lload_n, E_aload_n, E_istore_n, E_lstore_n, E_astore_n, E_astoreN_n, E_iload, E_lload, E_aload, E_istore, E_lstore, E_astore, E_astoreN, E_ldi, E_ldl, E_lda, E_ldN, E_iinc, E_iadd, E_isub, E_imul, E_iand, E_ior, E_ixor, E_ishl, E_ishr, E_idiv, E_irem, E_ineg, E_ladd, E_lsub, E_land, E_lor, E_lcmp, E_lshl, E_lshr, E_lushr, E_i2l, E_l2i, E_i2c, E_dupI, E_popI, E_dup_x1II, E_dup2II, E_dup_x1IR, E_dup2IR, E_dup_x1IN, E_dup2IN, E_dupR, E_popR, E_dup_x1RI, E_dup2RI, E_dup_x1RR, E_dup2RR, E_dup_x1RN, E_dup2RN, E_dupN, E_popN, E_dup_x1NI, E_dup2NI, E_dup_x1NR, E_dup2NR, E_dup_x1NN, E_dup2NN, E_goto, E_if_eq, E_if_ne, E_if_lt, E_if_ge, E_if_gt, E_if_le, E_ic_eq, E_ic_ne, E_ic_lt, E_ic_ge, E_ic_gt, E_ic_le, E_ifnull, E_ifnullN, E_ifnonnull, E_ifnonnullN, E_get, E_gf, E_xv, E_n0, E_ns, E_putI, E_putR, E_putN, E_pf, E_st0, E_sts, E_iaload, E_caload, E_laload, E_aaload, E_alen, E_iast, E_cast, E_last, E_xI, E_xJ, E_xQ, E_xN, E_lk, E_lkn, E_s1, E_s1h, E_s1I, E_s1R, E_s1N, E_s1L, E_s2, E_s2h, E_s2L, E_s2I, E_s2R, E_s2N, E_a1, E_a0, E_aI, E_aR, E_aN, E_aL, Option.isSome_some, eq_self, true_and, and_true, true_or, or_true, ne_eq, not_false_eq_true, not_true_eq_false, reduceIte, reduceCtorEq, Nat.reduceAdd, Nat.reduceBEq, Nat.reduceEqDiff, Option.toList_some, Option.toList_none, List.cons_append, List.nil_append]
    refine sp_pFi hz (hi rfl) f_Shelf_7 h1 (by decide) d_Shelf_init_6 ?_
    refine sp_run hz _ _ e_Shelf_init_9 _ _ _ ?_
    simp only [k_Shelf_init_9, E_nil, E_iconst, E_bipush, E_sipush, E_ldc, E_ldc2, E_lconst, E_null, E_iload_n, E_lload_n, E_aload_n, E_istore_n, E_lstore_n, E_astore_n, E_astoreN_n, E_iload, E_lload, E_aload, E_istore, E_lstore, E_astore, E_astoreN, E_ldi, E_ldl, E_lda, E_ldN, E_iinc, E_iadd, E_isub, E_imul, E_iand, E_ior, E_ixor, E_ishl, E_ishr, E_idiv, E_irem, E_ineg, E_ladd, E_lsub, E_land, E_lor, E_lcmp, E_lshl, E_lshr, E_lushr, E_i2l, E_l2i, E_i2c, E_dupI, E_popI, E_dup_x1II, E_dup2II, E_dup_x1IR, E_dup2IR, E_dup_x1IN, E_dup2IN, E_dupR, E_popR, E_dup_x1RI, E_dup2RI, E_dup_x1RR, E_dup2RR, E_dup_x1RN, E_dup2RN, E_dupN, E_popN, E_dup_x1NI, E_dup2NI, E_dup_x1NR, E_dup2NR, E_dup_x1NN, E_dup2NN, E_goto, E_if_eq, E_if_ne, E_if_lt, E_if_ge, E_if_gt, E_if_le, E_ic_eq, E_ic_ne, E_ic_lt, E_ic_ge, E_ic_gt, E_ic_le, E_ifnull, E_ifnullN, E_ifnonnull, E_ifnonnullN, E_get, E_gf, E_xv, E_n0, E_ns, E_putI, E_putR, E_putN, E_pf, E_st0, E_sts, E_iaload, E_caload, E_laload, E_aaload, E_alen, E_iast, E_cast, E_last, E_xI, E_xJ, E_xQ, E_xN, E_lk, E_lkn, E_s1, E_s1h, E_s1I, E_s1R, E_s1N, E_s1L, E_s2, E_s2h, E_s2L, E_s2I, E_s2R, E_s2N, E_a1, E_a0, E_aI, E_aR, E_aN, E_aL, Option.isSome_some, eq_self, true_and, and_true, true_or, or_true, ne_eq, not_false_eq_true, not_true_eq_false, reduceIte, reduceCtorEq, Nat.reduceAdd, Nat.reduceBEq, Nat.reduceEqDiff, Option.toList_some, Option.toList_none, List.cons_append, List.nil_append]
    refine sp_pFi hz (hi rfl) f_Shelf_13 (sp_u_s _ _ _) (Nat.le_of_ble_eq_true rfl) d_Shelf_init_11 ?_
    refine sp_run hz _ _ e_Shelf_init_14 _ _ _ ?_
    simp only [k_Shelf_init_14, E_nil, E_iconst, E_bipush, E_sipush, E_ldc, E_ldc2, E_lconst, E_null, E_iload_n, E_lload_n, E_aload_n, E_istore_n, E_lstore_n, E_astore_n, E_astoreN_n, E_iload, E_lload, E_aload, E_istore, E_lstore, E_astore, E_astoreN, E_ldi, E_ldl, E_lda, E_ldN, E_iinc, E_iadd, E_isub, E_imul, E_iand, E_ior, E_ixor, E_ishl, E_ishr, E_idiv, E_irem, E_ineg, E_ladd, E_lsub, E_land, E_lor, E_lcmp, E_lshl, E_lshr, E_lushr, E_i2l, E_l2i, E_i2c, E_dupI, E_popI, E_dup_x1II, E_dup2II, E_dup_x1IR, E_dup2IR, E_dup_x1IN, E_dup2IN, E_dupR, E_popR, E_dup_x1RI, E_dup2RI, E_dup_x1RR, E_dup2RR, E_dup_x1RN, E_dup2RN, E_dupN, E_popN, E_dup_x1NI, E_dup2NI, E_dup_x1NR, E_dup2NR, E_dup_x1NN, E_dup2NN, E_goto, E_if_eq, E_if_ne, E_if_lt, E_if_ge, E_if_gt, E_if_le, E_ic_eq, E_ic_ne, E_ic_lt, E_ic_ge, E_ic_gt, E_ic_le, E_ifnull, E_ifnullN, E_ifnonnull, E_ifnonnullN, E_get, E_gf, E_xv, E_n0, E_ns, E_putI, E_putR, E_putN, E_pf, E_st0, E_sts, E_iaload, E_caload, E_laload, E_aaload, E_alen, E_iast, E_cast, E_last, E_xI, E_xJ, E_xQ, E_xN, E_lk, E_lkn, E_s1, E_s1h, E_s1I, E_s1R, E_s1N, E_s1L, E_s2, E_s2h, E_s2L, E_s2I, E_s2R, E_s2N, E_a1, E_a0, E_aI, E_aR, E_aN, E_aL, Option.isSome_some, eq_self, true_and, and_true, true_or, or_true, ne_eq, not_false_eq_true, not_true_eq_false, reduceIte, reduceCtorEq, Nat.reduceAdd, Nat.reduceBEq, Nat.reduceEqDiff, Option.toList_some, Option.toList_none, List.cons_append, List.nil_append, sp_u_s, List.set]
    refine sp_vret hz d_Shelf_init_39 (Nat.le_refl _) (Nat.le_refl _) (hp _ (sp_u_s _ _ _) (fun q hq => ?_))
    rw [sp_u_n _ _ hq, sp_u_n _ _ hq, sp_u_n _ _ hq, sp_u_n _ _ hq, sp_u_n _ _ hq, sp_u_n _ _ hq, sp_u_n _ _ hq]
def T_Draft_init (G : sp_G) : sp_T := fun av M Post => ∃ d, av = [.ref d] ∧ M d = some (.inr (5, [.null, .null, .int 0, .int 0])) ∧ ∀ M' kt kch dt dch, dr G M' d kt kch dt dch [] [] 0 2147483647 → M kt = none → M kch = none → M dt = none → M dch = none → kt ≠ dt → kch ≠ dch → (∀ q, q ≠ d → M q ≠ none → M' q = M q) → Post none M'
set_option maxHeartbeats 4000000 in
set_option maxRecDepth 100000 in
theorem c_Draft_init (l : Launch) (G : sp_G) : sp_Met l G y_Draft_init b_Draft_init 1 none { frames := 2, cells := 4, slots := 216, locals := 34 } (T_Draft_init G) := by
  refine sp_entry (by decide) (fun av M Post h => ?_) (fun z M av Post hz hi hT => ?_)
  · obtain ⟨d, rfl, -⟩ := h
    exact Nat.le_of_ble_eq_true rfl
  · obtain ⟨d, rfl, h1, hp⟩ := hT
    refine sp_run hz _ _ e_Draft_init_0 _ _ _ ?_
    simp only [k_Draft_init_0, E_nil, E_iconst, E_bipush, E_sipush, E_ldc, E_ldc2, E_lconst, E_null, E_iload_n, E_lload_n, E_aload_n, E_istore_n, E_lstore_n, E_astore_n, E_astoreN_n, E_iload, E_lload, E_aload, E_istore, E_lstore, E_astore, E_astoreN, E_ldi, E_ldl, E_lda, E_ldN, E_iinc, E_iadd, E_isub, E_imul, E_iand, E_ior, E_ixor, E_ishl, E_ishr, E_idiv, E_irem, E_ineg, E_ladd, E_lsub, E_land, E_lor, E_lcmp, E_lshl, E_lshr, E_lushr, E_i2l, E_l2i, E_i2c, E_dupI, E_popI, E_dup_x1II, E_dup2II, E_dup_x1IR, E_dup2IR, E_dup_x1IN, E_dup2IN, E_dupR, E_popR, E_dup_x1RI, E_dup2RI, E_dup_x1RR, E_dup2RR, E_dup_x1RN, E_dup2RN, E_dupN, E_popN, E_dup_x1NI, E_dup2NI, E_dup_x1NR, E_dup2NR, E_dup_x1NN, E_dup2NN, E_goto, E_if_eq, E_if_ne, E_if_lt, E_if_ge, E_if_gt, E_if_le, E_ic_eq, E_ic_ne, E_ic_lt, E_ic_ge, E_ic_gt, E_ic_le, E_ifnull, E_ifnullN, E_ifnonnull, E_ifnonnullN, E_get, E_gf, E_xv, E_n0, E_ns, E_putI, E_putR, E_putN, E_pf, E_st0, E_sts, E_iaload, E_caload, E_laload, E_aaload, E_alen, E_iast, E_cast, E_last, E_xI, E_xJ, E_xQ, E_xN, E_lk, E_lkn, E_s1, E_s1h, E_s1I, E_s1R, E_s1N, E_s1L, E_s2, E_s2h, E_s2L, E_s2I, E_s2R, E_s2N, E_a1, E_a0, E_aI, E_aR, E_aN, E_aL, Option.isSome_some, eq_self, true_and, and_true, true_or, or_true, ne_eq, not_false_eq_true, not_true_eq_false, reduceIte, reduceCtorEq, Nat.reduceAdd, Nat.reduceBEq, Nat.reduceEqDiff, Option.toList_some, Option.toList_none, List.cons_append, List.nil_append]
    refine sp_objI hz w_Draft_3 (Nat.le_of_ble_eq_true rfl) (Nat.le_of_ble_eq_true rfl) d_Draft_init_1 ?_
    refine sp_run hz _ _ e_Draft_init_4 _ _ _ ?_
    simp only [k_Draft_init_4, E_nil, E_iconst, E_bipush, E_sipush, E_ldc, E_ldc2, E_lconst, E_null, E_iload_n, E_lload_n, E_aload_n, E_istore_n, E_lstore_n, E_astore_n, E_astoreN_n, E_iload, E_lload, E_aload, E_istore, E_lstore, E_astore, E_astoreN, E_ldi, E_ldl, E_lda, E_ldN, E_iinc, E_iadd, E_isub, E_imul, E_iand, E_ior, E_ixor, E_ishl, E_ishr, E_idiv, E_irem, E_ineg, E_ladd, E_lsub, E_land, E_lor, E_lcmp, E_lshl, E_lshr, E_lushr, E_i2l, E_l2i, E_i2c, E_dupI, E_popI, E_dup_x1II, E_dup2II, E_dup_x1IR, E_dup2IR, E_dup_x1IN, E_dup2IN, E_dupR, E_popR, E_dup_x1RI, E_dup2RI, E_dup_x1RR, E_dup2RR, E_dup_x1RN, E_dup2RN, E_dupN, E_popN, E_dup_x1NI, E_dup2NI, E_dup_x1NR, E_dup2NR, E_dup_x1NN, E_dup2NN, E_goto, E_if_eq, E_if_ne, E_if_lt, E_if_ge, E_if_gt, E_if_le, E_ic_eq, E_ic_ne, E_ic_lt, E_ic_ge, E_ic_gt, E_ic_le, E_ifnull, E_ifnullN, E_ifnonnull, E_ifnonnullN, E_get, E_gf, E_xv, E_n0, E_ns, E_putI, E_putR, E_putN, E_pf, E_st0, E_sts, E_iaload, E_caload, E_laload, E_aaload, E_alen, E_iast, E_cast, E_last, E_xI, E_xJ, E_xQ, E_xN, E_lk, E_lkn, E_s1, E_s1h, E_s1I, E_s1R, E_s1N, E_s1L, E_s2, E_s2h, E_s2L, E_s2I, E_s2R, E_s2N, E_a1, E_a0, E_aI, E_aR, E_aN, E_aL, Option.isSome_some, eq_self, true_and, and_true, true_or, or_true, ne_eq, not_false_eq_true, not_true_eq_false, reduceIte, reduceCtorEq, Nat.reduceAdd, Nat.reduceBEq, Nat.reduceEqDiff, Option.toList_some, Option.toList_none, List.cons_append, List.nil_append]
    refine sp_new hz (ci := 0) (fs := [.null, .int 0]) rfl n_Draft_9 nf_Text (Nat.le_of_ble_eq_true rfl) (Nat.le_of_ble_eq_true rfl) d_Draft_init_5 (fun kt hkt => ?_)
    have kd : d ≠ kt := fun e => by
      rw [← e, h1] at hkt
      cases hkt
    refine sp_run hz _ _ e_Draft_init_8 _ _ _ ?_
    simp only [k_Draft_init_8, E_nil, E_iconst, E_bipush, E_sipush, E_ldc, E_ldc2, E_lconst, E_null, E_iload_n, E_lload_n, E_aload_n, E_istore_n, E_lstore_n, E_astore_n, E_astoreN_n, E_iload, E_lload, E_aload, E_istore, E_lstore, E_astore, E_astoreN, E_ldi, E_ldl, E_lda, E_ldN, E_iinc, E_iadd, E_isub, E_imul, E_iand, E_ior, E_ixor, E_ishl, E_ishr, E_idiv, E_irem, E_ineg, E_ladd, E_lsub, E_land, E_lor, E_lcmp, E_lshl, E_lshr, E_lushr, E_i2l, E_l2i, E_i2c, E_dupI, E_popI, E_dup_x1II, E_dup2II, E_dup_x1IR, E_dup2IR, E_dup_x1IN, E_dup2IN, E_dupR, E_popR, E_dup_x1RI, E_dup2RI, E_dup_x1RR, E_dup2RR, E_dup_x1RN, E_dup2RN, E_dupN, E_popN, E_dup_x1NI, E_dup2NI, E_dup_x1NR, E_dup2NR, E_dup_x1NN, E_dup2NN, E_goto, E_if_eq, E_if_ne, E_if_lt, E_if_ge, E_if_gt, E_if_le, E_ic_eq, E_ic_ne, E_ic_lt, E_ic_ge, E_ic_gt, E_ic_le, E_ifnull, E_ifnullN, E_ifnonnull, E_ifnonnullN, E_get, E_gf, E_xv, E_n0, E_ns, E_putI, E_putR, E_putN, E_pf, E_st0, E_sts, E_iaload, E_caload, E_laload, E_aaload, E_alen, E_iast, E_cast, E_last, E_xI, E_xJ, E_xQ, E_xN, E_lk, E_lkn, E_s1, E_s1h, E_s1I, E_s1R, E_s1N, E_s1L, E_s2, E_s2h, E_s2L, E_s2I, E_s2R, E_s2N, E_a1, E_a0, E_aI, E_aR, E_aN, E_aL, Option.isSome_some, eq_self, true_and, and_true, true_or, or_true, ne_eq, not_false_eq_true, not_true_eq_false, reduceIte, reduceCtorEq, Nat.reduceAdd, Nat.reduceBEq, Nat.reduceEqDiff, Option.toList_some, Option.toList_none, List.cons_append, List.nil_append]
    refine sp_callI hz (c_Text_init l G 8) (b := kt) (As := [.int (nI 8)]) (rest := [.ref kt, .ref d]) w_Draft_13 (by decide) rfl (Nat.le_of_ble_eq_true rfl) d_Draft_init_11 ⟨kt, rfl, sp_u_s _ _ _, by decide, fun M1 kch hkch t1 o1 => ?_⟩ rfl
    have kk1 : kch ≠ kt := fun e => by
      rw [e, sp_u_s] at hkch
      cases hkch
    rw [sp_u_n _ _ kk1] at hkch
    have kk2 : kch ≠ d := fun e => by
      rw [e, h1] at hkch
      cases hkch
    have d1 : M1 d = some (.inr (5, [.null, .null, .int 0, .int 0])) := by
      rw [o1 d kd (Ne.symm kk2), sp_u_n _ _ kd, h1]
    refine sp_pFr hz (hi rfl) f_Draft_16 d1 (Nat.le_of_ble_eq_true rfl) d_Draft_init_14 ?_
    refine sp_run hz _ _ e_Draft_init_17 _ _ _ ?_
    simp only [k_Draft_init_17, E_nil, E_iconst, E_bipush, E_sipush, E_ldc, E_ldc2, E_lconst, E_null, E_iload_n, E_lload_n, E_aload_n, E_istore_n, E_lstore_n, E_astore_n, E_astoreN_n, E_iload, E_lload, E_aload, E_istore, E_lstore, E_astore, E_astoreN, E_ldi, E_ldl, E_lda, E_ldN, E_iinc, E_iadd, E_isub, E_imul, E_iand, E_ior, E_ixor, E_ishl, E_ishr, E_idiv, E_irem, E_ineg, E_ladd, E_lsub, E_land, E_lor, E_lcmp, E_lshl, E_lshr, E_lushr, E_i2l, E_l2i, E_i2c, E_dupI, E_popI, E_dup_x1II, E_dup2II, E_dup_x1IR, E_dup2IR, E_dup_x1IN, E_dup2IN, E_dupR, E_popR, E_dup_x1RI, E_dup2RI, E_dup_x1RR, E_dup2RR, E_dup_x1RN, E_dup2RN, E_dupN, E_popN, E_dup_x1NI, E_dup2NI, E_dup_x1NR, E_dup2NR, E_dup_x1NN, E_dup2NN, E_goto, E_if_eq, E_if_ne, E_if_lt, E_if_ge, E_if_gt, E_if_le, E_ic_eq, E_ic_ne, E_ic_lt, E_ic_ge, E_ic_gt, E_ic_le, E_ifnull, E_ifnullN, E_ifnonnull, E_ifnonnullN, E_get, E_gf, E_xv, E_n0, E_ns, E_putI, E_putR, E_putN, E_pf, E_st0, E_sts, E_iaload, E_caload, E_laload, E_aaload, E_alen, E_iast, E_cast, E_last, E_xI, E_xJ, E_xQ, E_xN, E_lk, E_lkn, E_s1, E_s1h, E_s1I, E_s1R, E_s1N, E_s1L, E_s2, E_s2h, E_s2L, E_s2I, E_s2R, E_s2N, E_a1, E_a0, E_aI, E_aR, E_aN, E_aL, Option.isSome_some, eq_self, true_and, and_true, true_or, or_true, ne_eq, not_false_eq_true, not_true_eq_false, reduceIte, reduceCtorEq, Nat.reduceAdd, Nat.reduceBEq, Nat.reduceEqDiff, Option.toList_some, Option.toList_none, List.cons_append, List.nil_append]
    generalize hM2 : sp_u M1 d _ = M2
    have d2 : M2 d = some (.inr (5, [.ref kt, .null, .int 0, .int 0])) := by
      rw [← hM2, sp_u_s]
    have o2 : ∀ q, q ≠ d → M2 q = M1 q := fun q hq => by rw [← hM2, sp_u_n _ _ hq]
    have t2 : tx G M2 kt kch 8 [] := t1.keep (o2 kt (Ne.symm kd)) (o2 kch kk2)
    refine sp_new hz (ci := 0) (fs := [.null, .int 0]) rfl n_Draft_9 nf_Text (Nat.le_of_ble_eq_true rfl) (Nat.le_of_ble_eq_true rfl) d_Draft_init_18 (fun dt hdt => ?_)
    have e1 : d ≠ dt := fun e => by
      rw [← e, d2] at hdt
      cases hdt
    have e2 : kt ≠ dt := fun e => by
      rw [← e, t2.1] at hdt
      cases hdt
    have e3 : kch ≠ dt := fun e => by
      obtain ⟨-, -, -, -, f, u5, -⟩ := t2
      rw [← e, u5] at hdt
      cases hdt
    refine sp_run hz _ _ e_Draft_init_21 _ _ _ ?_
    simp only [k_Draft_init_21, E_nil, E_iconst, E_bipush, E_sipush, E_ldc, E_ldc2, E_lconst, E_null, E_iload_n, E_lload_n, E_aload_n, E_istore_n, E_lstore_n, E_astore_n, E_astoreN_n, E_iload, E_lload, E_aload, E_istore, E_lstore, E_astore, E_astoreN, E_ldi, E_ldl, E_lda, E_ldN, E_iinc, E_iadd, E_isub, E_imul, E_iand, E_ior, E_ixor, E_ishl, E_ishr, E_idiv, E_irem, E_ineg, E_ladd, E_lsub, E_land, E_lor, E_lcmp, E_lshl, E_lshr, E_lushr, E_i2l, E_l2i, E_i2c, E_dupI, E_popI, E_dup_x1II, E_dup2II, E_dup_x1IR, E_dup2IR, E_dup_x1IN, E_dup2IN, E_dupR, E_popR, E_dup_x1RI, E_dup2RI, E_dup_x1RR, E_dup2RR, E_dup_x1RN, E_dup2RN, E_dupN, E_popN, E_dup_x1NI, E_dup2NI, E_dup_x1NR, E_dup2NR, E_dup_x1NN, E_dup2NN, E_goto, E_if_eq, E_if_ne, E_if_lt, E_if_ge, E_if_gt, E_if_le, E_ic_eq, E_ic_ne, E_ic_lt, E_ic_ge, E_ic_gt, E_ic_le, E_ifnull, E_ifnullN, E_ifnonnull, E_ifnonnullN, E_get, E_gf, E_xv, E_n0, E_ns, E_putI, E_putR, E_putN, E_pf, E_st0, E_sts, E_iaload, E_caload, E_laload, E_aaload, E_alen, E_iast, E_cast, E_last, E_xI, E_xJ, E_xQ, E_xN, E_lk, E_lkn, E_s1, E_s1h, E_s1I, E_s1R, E_s1N, E_s1L, E_s2, E_s2h, E_s2L, E_s2I, E_s2R, E_s2N, E_a1, E_a0, E_aI, E_aR, E_aN, E_aL, Option.isSome_some, eq_self, true_and, and_true, true_or, or_true, ne_eq, not_false_eq_true, not_true_eq_false, reduceIte, reduceCtorEq, Nat.reduceAdd, Nat.reduceBEq, Nat.reduceEqDiff, Option.toList_some, Option.toList_none, List.cons_append, List.nil_append]
    refine sp_callI hz (c_Text_init l G 204) (b := dt) (As := [.int (nI 204)]) (rest := [.ref dt, .ref d]) w_Draft_13 (by decide) rfl (Nat.le_of_ble_eq_true rfl) d_Draft_init_25 ⟨dt, rfl, sp_u_s _ _ _, by decide, fun M3 dch hdch t3 o3 => ?_⟩ rfl
    have e4 : dch ≠ dt := fun e => by
      rw [e, sp_u_s] at hdch
      cases hdch
    rw [sp_u_n _ _ e4] at hdch
    have e5 : dch ≠ d := fun e => by
      rw [e, d2] at hdch
      cases hdch
    have e6 : dch ≠ kt := fun e => by
      rw [e, t2.1] at hdch
      cases hdch
    have e7 : dch ≠ kch := fun e => by
      obtain ⟨-, -, -, -, f, u5, -⟩ := t2
      rw [e, u5] at hdch
      cases hdch
    have d3 : M3 d = some (.inr (5, [.ref kt, .null, .int 0, .int 0])) := by
      rw [o3 d e1 (Ne.symm e5), sp_u_n _ _ e1, d2]
    have t23 : tx G M3 kt kch 8 [] := t2.keep (by rw [o3 kt e2 (Ne.symm e6), sp_u_n _ _ e2]) (by rw [o3 kch e3 (Ne.symm e7), sp_u_n _ _ e3])
    refine sp_pFr hz (hi rfl) f_Draft_24 d3 (Nat.le_of_ble_eq_true rfl) d_Draft_init_28 ?_
    refine sp_run hz _ _ e_Draft_init_31 _ _ _ ?_
    simp only [k_Draft_init_31, E_nil, E_iconst, E_bipush, E_sipush, E_ldc, E_ldc2, E_lconst, E_null, E_iload_n, E_lload_n, E_aload_n, E_istore_n, E_lstore_n, E_astore_n, E_astoreN_n, E_iload, E_lload, E_aload, E_istore, E_lstore, E_astore, E_astoreN, E_ldi, E_ldl, E_lda, E_ldN, E_iinc, E_iadd, E_isub, E_imul, E_iand, E_ior, E_ixor, E_ishl, E_ishr, E_idiv, E_irem, E_ineg, E_ladd, E_lsub, E_land, E_lor, E_lcmp, E_lshl, E_lshr, E_lushr, E_i2l, E_l2i, E_i2c, E_dupI, E_popI, E_dup_x1II, E_dup2II, E_dup_x1IR, E_dup2IR, E_dup_x1IN, E_dup2IN, E_dupR, E_popR, E_dup_x1RI, E_dup2RI, E_dup_x1RR, E_dup2RR, E_dup_x1RN, E_dup2RN, E_dupN, E_popN, E_dup_x1NI, E_dup2NI, E_dup_x1NR, E_dup2NR, E_dup_x1NN, E_dup2NN, E_goto, E_if_eq, E_if_ne, E_if_lt, E_if_ge, E_if_gt, E_if_le, E_ic_eq, E_ic_ne, E_ic_lt, E_ic_ge, E_ic_gt, E_ic_le, E_ifnull, E_ifnullN, E_ifnonnull, E_ifnonnullN, E_get, E_gf, E_xv, E_n0, E_ns, E_putI, E_putR, E_putN, E_pf, E_st0, E_sts, E_iaload, E_caload, E_laload, E_aaload, E_alen, E_iast, E_cast, E_last, E_xI, E_xJ, E_xQ, E_xN, E_lk, E_lkn, E_s1, E_s1h, E_s1I, E_s1R, E_s1N, E_s1L, E_s2, E_s2h, E_s2L, E_s2I, E_s2R, E_s2N, E_a1, E_a0, E_aI, E_aR, E_aN, E_aL, Option.isSome_some, eq_self, true_and, and_true, true_or, or_true, ne_eq, not_false_eq_true, not_true_eq_false, reduceIte, reduceCtorEq, Nat.reduceAdd, Nat.reduceBEq, Nat.reduceEqDiff, Option.toList_some, Option.toList_none, List.cons_append, List.nil_append, sp_u_s, List.set]
    have back : ∀ q, M2 q = none → q ≠ d → q ≠ kt → q ≠ kch → M q = none := fun q h2 n1 n2 n3 => by
      rw [← h2, o2 q n1, o1 q n2 n3, sp_u_n _ _ n2]
    refine sp_vret hz d_Draft_init_42 (Nat.le_refl _) (Nat.le_refl _) (hp _ kt kch dt dch ⟨sp_u_s _ _ _, t23.keep ?_ ?_, t3.keep ?_ ?_⟩ hkt hkch (back dt hdt (Ne.symm e1) (Ne.symm e2) (Ne.symm e3)) (back dch hdch e5 e6 e7) e2 (Ne.symm e7) (fun q q1 q2 => ?_))
    · rw [sp_u_n _ _ (Ne.symm kd), sp_u_n _ _ (Ne.symm kd), sp_u_n _ _ (Ne.symm kd)]
    · rw [sp_u_n _ _ kk2, sp_u_n _ _ kk2, sp_u_n _ _ kk2]
    · rw [sp_u_n _ _ (Ne.symm e1), sp_u_n _ _ (Ne.symm e1), sp_u_n _ _ (Ne.symm e1)]
    · rw [sp_u_n _ _ e5, sp_u_n _ _ e5, sp_u_n _ _ e5]
    · have n1 : q ≠ kt := fun e => q2 (by rw [e]; exact hkt)
      have n2 : q ≠ kch := fun e => q2 (by rw [e]; exact hkch)
      have n3 : q ≠ dt := fun e => q2 (by rw [e]; exact back dt hdt (Ne.symm e1) (Ne.symm e2) (Ne.symm e3))
      have n4 : q ≠ dch := fun e => q2 (by rw [e]; exact back dch hdch e5 e6 e7)
      rw [sp_u_n _ _ q1, sp_u_n _ _ q1, sp_u_n _ _ q1, o3 q n3 n4, sp_u_n _ _ n3, o2 q q1, o1 q n1 n2, sp_u_n _ _ n1]

theorem w_Memory_11c : Cond.classLink R_Memory 11 "SlabPantry$Shelf" ∈ sp_TB := sp_in_e (j := 117) (by decide +kernel)
theorem nf_Shelf : ∀ j, j < 7 → defaultValue ((parseFieldDescriptor (F_Shelf j).2.2.1).getD .int) = vp_V [.int 0, .int 0, .int 0, .int 0, .null, .null, .null] j := by decide +kernel
theorem zc_sh : ∀ i, i < 4 → (8 : Int32) <<< (nI i &&& 31) = nI (zc i) := z4 (by decide) (by decide) (by decide) (by decide)
theorem zp_dv : ∀ i, i < 4 → ¬ nI (zc i) = 0 ∧ (64 : Int32) / nI (zc i) = nI (zp i) := z4 (by decide) (by decide) (by decide) (by decide)
def T_Memory_init (G : sp_G) : sp_T := fun av M Post => ∃ m, av = [.ref m] ∧ M m = some (.inr (3, [.null, .int 0, .int 0, .int 0, .int 0, .int 0])) ∧ ∀ M' sa sh, (∀ W Q, mem G M' m sa sh W (fun _ => 0) (fun _ => []) (fun _ => []) Q (6, 0, 0, 0, 0)) → M sa = none → (∀ q, q ≠ m → M q ≠ none → M' q = M q) → Post none M'
set_option maxHeartbeats 4000000 in
set_option maxRecDepth 100000 in
theorem c_Memory_init (l : Launch) (G : sp_G) : sp_Met l G y_Memory_init b_Memory_init 3 none { frames := 2, cells := 5, slots := 32, locals := 34 } (T_Memory_init G) := by
  refine sp_entry (by decide) (fun av M Post h => ?_) (fun z M av Post hz hi hT => ?_)
  · obtain ⟨m, rfl, -⟩ := h
    exact Nat.le_of_ble_eq_true rfl
  · obtain ⟨m, rfl, h1, hp⟩ := hT
    refine sp_run hz _ _ e_Memory_init_0 _ _ _ ?_
    simp only [k_Memory_init_0, E_nil, E_iconst, E_bipush, E_sipush, E_ldc, E_ldc2, E_lconst, E_null, E_iload_n, E_lload_n, E_aload_n, E_istore_n, E_lstore_n, E_astore_n, E_astoreN_n, E_iload, E_lload, E_aload, E_istore, E_lstore, E_astore, E_astoreN, E_ldi, E_ldl, E_lda, E_ldN, E_iinc, E_iadd, E_isub, E_imul, E_iand, E_ior, E_ixor, E_ishl, E_ishr, E_idiv, E_irem, E_ineg, E_ladd, E_lsub, E_land, E_lor, E_lcmp, E_lshl, E_lshr, E_lushr, E_i2l, E_l2i, E_i2c, E_dupI, E_popI, E_dup_x1II, E_dup2II, E_dup_x1IR, E_dup2IR, E_dup_x1IN, E_dup2IN, E_dupR, E_popR, E_dup_x1RI, E_dup2RI, E_dup_x1RR, E_dup2RR, E_dup_x1RN, E_dup2RN, E_dupN, E_popN, E_dup_x1NI, E_dup2NI, E_dup_x1NR, E_dup2NR, E_dup_x1NN, E_dup2NN, E_goto, E_if_eq, E_if_ne, E_if_lt, E_if_ge, E_if_gt, E_if_le, E_ic_eq, E_ic_ne, E_ic_lt, E_ic_ge, E_ic_gt, E_ic_le, E_ifnull, E_ifnullN, E_ifnonnull, E_ifnonnullN, E_get, E_gf, E_xv, E_n0, E_ns, E_putI, E_putR, E_putN, E_pf, E_st0, E_sts, E_iaload, E_caload, E_laload, E_aaload, E_alen, E_iast, E_cast, E_last, E_xI, E_xJ, E_xQ, E_xN, E_lk, E_lkn, E_s1, E_s1h, E_s1I, E_s1R, E_s1N, E_s1L, E_s2, E_s2h, E_s2L, E_s2I, E_s2R, E_s2N, E_a1, E_a0, E_aI, E_aR, E_aN, E_aL, Option.isSome_some, eq_self, true_and, and_true, true_or, or_true, ne_eq, not_false_eq_true, not_true_eq_false, reduceIte, reduceCtorEq, Nat.reduceAdd, Nat.reduceBEq, Nat.reduceEqDiff, Option.toList_some, Option.toList_none, List.cons_append, List.nil_append]
    refine sp_objI hz w_Memory_3 (Nat.le_of_ble_eq_true rfl) (Nat.le_of_ble_eq_true rfl) d_Memory_init_1 ?_
    refine sp_run hz _ _ e_Memory_init_4 _ _ _ ?_
    simp only [k_Memory_init_4, E_nil, E_iconst, E_bipush, E_sipush, E_ldc, E_ldc2, E_lconst, E_null, E_iload_n, E_lload_n, E_aload_n, E_istore_n, E_lstore_n, E_astore_n, E_astoreN_n, E_iload, E_lload, E_aload, E_istore, E_lstore, E_astore, E_astoreN, E_ldi, E_ldl, E_lda, E_ldN, E_iinc, E_iadd, E_isub, E_imul, E_iand, E_ior, E_ixor, E_ishl, E_ishr, E_idiv, E_irem, E_ineg, E_ladd, E_lsub, E_land, E_lor, E_lcmp, E_lshl, E_lshr, E_lushr, E_i2l, E_l2i, E_i2c, E_dupI, E_popI, E_dup_x1II, E_dup2II, E_dup_x1IR, E_dup2IR, E_dup_x1IN, E_dup2IN, E_dupR, E_popR, E_dup_x1RI, E_dup2RI, E_dup_x1RR, E_dup2RR, E_dup_x1RN, E_dup2RN, E_dupN, E_popN, E_dup_x1NI, E_dup2NI, E_dup_x1NR, E_dup2NR, E_dup_x1NN, E_dup2NN, E_goto, E_if_eq, E_if_ne, E_if_lt, E_if_ge, E_if_gt, E_if_le, E_ic_eq, E_ic_ne, E_ic_lt, E_ic_ge, E_ic_gt, E_ic_le, E_ifnull, E_ifnullN, E_ifnonnull, E_ifnonnullN, E_get, E_gf, E_xv, E_n0, E_ns, E_putI, E_putR, E_putN, E_pf, E_st0, E_sts, E_iaload, E_caload, E_laload, E_aaload, E_alen, E_iast, E_cast, E_last, E_xI, E_xJ, E_xQ, E_xN, E_lk, E_lkn, E_s1, E_s1h, E_s1I, E_s1R, E_s1N, E_s1L, E_s2, E_s2h, E_s2L, E_s2I, E_s2R, E_s2N, E_a1, E_a0, E_aI, E_aR, E_aN, E_aL, Option.isSome_some, eq_self, true_and, and_true, true_or, or_true, ne_eq, not_false_eq_true, not_true_eq_false, reduceIte, reduceCtorEq, Nat.reduceAdd, Nat.reduceBEq, Nat.reduceEqDiff, Option.toList_some, Option.toList_none, List.cons_append, List.nil_append]
    refine sp_anew hz w_Memory_11c (Nat.le_of_ble_eq_true rfl) (Nat.le_of_ble_eq_true rfl) d_Memory_init_6 (fun sa hsa => ?_)
    have sm : m ≠ sa := fun e => by
      rw [← e, h1] at hsa
      cases hsa
    refine sp_pFr hz (hi rfl) f_Memory_13 ((sp_u_n _ _ sm).trans h1) (Nat.le_of_ble_eq_true rfl) d_Memory_init_9 ?_
    generalize hM1 : sp_u (sp_u M sa _) m _ = M1
    have g1 : M1 m = some (.inr (3, [.ref sa, .int 0, .int 0, .int 0, .int 0, .int 0])) := by
      rw [← hM1, sp_u_s]
      rfl
    have g2 : M1 sa = some (.inl (G.2.1 3, 4, .inr (.inr (.inr (.inr (fun _ => none)))))) := by
      rw [← hM1, sp_u_n _ _ (Ne.symm sm), sp_u_s]
    have g3 : ∀ q, q ≠ m → M q ≠ none → M1 q = M q := fun q q1 q2 => by
      rw [← hM1, sp_u_n _ _ q1, sp_u_n _ _ (fun e => q2 (by rw [e]; exact hsa))]
    have step : ∀ i, i < 4 → (∀ (sh : Nat → Nat) (M2 : sp_M), M2 m = some (.inr (3, [.ref sa, .int 0, .int 0, .int 0, .int 0, .int 0])) → M2 sa = some (.inl (G.2.1 3, 4, .inr (.inr (.inr (.inr (fun j => if j < i + 1 then some (sh j) else none)))))) → (∀ j, j < i + 1 → M2 (sh j) = some (sg (zc j) (zp j) 0 0 none none none)) → (∀ j k, j < i + 1 → k < i + 1 → sh j = sh k → j = k) → (∀ q, q ≠ m → M q ≠ none → M2 q = M q) → sp_W z G M (sp_Q z G M Post 5 32) 3 (1 + (i + 1)) (4 + 7 * (i + 1)) 14 [(0, .ref m), (1, .int (nI (i + 1)))] [] M2) →
        (∀ (sh : Nat → Nat) (M2 : sp_M), M2 m = some (.inr (3, [.ref sa, .int 0, .int 0, .int 0, .int 0, .int 0])) → M2 sa = some (.inl (G.2.1 3, 4, .inr (.inr (.inr (.inr (fun j => if j < i then some (sh j) else none)))))) → (∀ j, j < i → M2 (sh j) = some (sg (zc j) (zp j) 0 0 none none none)) → (∀ j k, j < i → k < i → sh j = sh k → j = k) → (∀ q, q ≠ m → M q ≠ none → M2 q = M q) → sp_W z G M (sp_Q z G M Post 5 32) 3 (1 + i) (4 + 7 * i) 14 [(0, .ref m), (1, .int (nI i))] [] M2) := by
      intro i hi4 kk sh M2 m1 m2 m3 m4 m5
      have hi31 : i < 2 ^ 31 := by omega
      have e1 := zc_sh i hi4
      obtain ⟨e2, e3⟩ := zp_dv i hi4
      refine sp_run hz _ _ e_Memory_init_14 _ _ _ ?_
      simp only [k_Memory_init_14, E_nil, E_iconst, E_bipush, E_sipush, E_ldc, E_ldc2, E_lconst, E_null, E_iload_n, E_lload_n, E_aload_n, E_istore_n, E_lstore_n, E_astore_n, E_astoreN_n, E_iload, E_lload, E_aload, E_istore, E_lstore, E_astore, E_astoreN, E_ldi, E_ldl, E_lda, E_ldN, E_iinc, E_iadd, E_isub, E_imul, E_iand, E_ior, E_ixor, E_ishl, E_ishr, E_idiv, E_irem, E_ineg, E_ladd, E_lsub, E_land, E_lor, E_lcmp, E_lshl, E_lshr, E_lushr, E_i2l, E_l2i, E_i2c, E_dupI, E_popI, E_dup_x1II, E_dup2II, E_dup_x1IR, E_dup2IR, E_dup_x1IN, E_dup2IN, E_dupR, E_popR, E_dup_x1RI, E_dup2RI, E_dup_x1RR, E_dup2RR, E_dup_x1RN, E_dup2RN, E_dupN, E_popN, E_dup_x1NI, E_dup2NI, E_dup_x1NR, E_dup2NR, E_dup_x1NN, E_dup2NN, E_goto, E_if_eq, E_if_ne, E_if_lt, E_if_ge, E_if_gt, E_if_le, E_ic_eq, E_ic_ne, E_ic_lt, E_ic_ge, E_ic_gt, E_ic_le, E_ifnull, E_ifnullN, E_ifnonnull, E_ifnonnullN, E_get, E_gf, E_xv, E_n0, E_ns, E_putI, E_putR, E_putN, E_pf, E_st0, E_sts, E_iaload, E_caload, E_laload, E_aaload, E_alen, E_iast, E_cast, E_last, E_xI, E_xJ, E_xQ, E_xN, E_lk, E_lkn, E_s1, E_s1h, E_s1I, E_s1R, E_s1N, E_s1L, E_s2, E_s2h, E_s2L, E_s2I, E_s2R, E_s2N, E_a1, E_a0, E_aI, E_aR, E_aN, E_aL, Option.isSome_some, eq_self, true_and, and_true, true_or, or_true, ne_eq, not_false_eq_true, not_true_eq_false, reduceIte, reduceCtorEq, Nat.reduceAdd, Nat.reduceBEq, Nat.reduceEqDiff, Option.toList_some, Option.toList_none, List.cons_append, List.nil_append, m1, e1]
      refine ⟨fun h => absurd ((nI_leI (b := i) (a := 4) (by omega) (by omega)).mp h) (by omega), fun _ => ?_⟩
      refine sp_new hz (ci := 2) (fs := [.int 0, .int 0, .int 0, .int 0, .null, .null, .null]) rfl n_Memory_11 nf_Shelf (by show 1 + i + 1 ≤ 5; omega) (by show 4 + 7 * i + 7 ≤ 32; omega) d_Memory_init_29 (fun s hs => ?_)
      have smm : s ≠ m := fun e => by
        rw [e, m1] at hs
        cases hs
      have ssa : s ≠ sa := fun e => by
        rw [e, m2] at hs
        cases hs
      have ssh : ∀ j, j < i → sh j ≠ s := fun j hj e => by
        rw [← e, m3 j hj] at hs
        cases hs
      refine sp_run hz _ _ e_Memory_init_32 _ _ _ ?_
      simp only [k_Memory_init_32, E_nil, E_iconst, E_bipush, E_sipush, E_ldc, E_ldc2, E_lconst, E_null, E_iload_n, E_lload_n, E_aload_n, E_istore_n, E_lstore_n, E_astore_n, E_astoreN_n, E_iload, E_lload, E_aload, E_istore, E_lstore, E_astore, E_astoreN, E_ldi, E_ldl, E_lda, E_ldN, E_iinc, E_iadd, E_isub, E_imul, E_iand, E_ior, E_ixor, E_ishl, E_ishr, E_idiv, E_irem, E_ineg, E_ladd, E_lsub, E_land, E_lor, E_lcmp, E_lshl, E_lshr, E_lushr, E_i2l, E_l2i, E_i2c, E_dupI, E_popI, E_dup_x1II, E_dup2II, E_dup_x1IR, E_dup2IR, E_dup_x1IN, E_dup2IN, E_dupR, E_popR, E_dup_x1RI, E_dup2RI, E_dup_x1RR, E_dup2RR, E_dup_x1RN, E_dup2RN, E_dupN, E_popN, E_dup_x1NI, E_dup2NI, E_dup_x1NR, E_dup2NR, E_dup_x1NN, E_dup2NN, E_goto, E_if_eq, E_if_ne, E_if_lt, E_if_ge, E_if_gt, E_if_le, E_ic_eq, E_ic_ne, E_ic_lt, E_ic_ge, E_ic_gt, E_ic_le, E_ifnull, E_ifnullN, E_ifnonnull, E_ifnonnullN, E_get, E_gf, E_xv, E_n0, E_ns, E_putI, E_putR, E_putN, E_pf, E_st0, E_sts, E_iaload, E_caload, E_laload, E_aaload, E_alen, E_iast, E_cast, E_last, E_xI, E_xJ, E_xQ, E_xN, E_lk, E_lkn, E_s1, E_s1h, E_s1I, E_s1R, E_s1N, E_s1L, E_s2, E_s2h, E_s2L, E_s2I, E_s2R, E_s2N, E_a1, E_a0, E_aI, E_aR, E_aN, E_aL, Option.isSome_some, eq_self, true_and, and_true, true_or, or_true, ne_eq, not_false_eq_true, not_true_eq_false, reduceIte, reduceCtorEq, Nat.reduceAdd, Nat.reduceBEq, Nat.reduceEqDiff, Option.toList_some, Option.toList_none, List.cons_append, List.nil_append, e2, e3]
      refine sp_callI hz (c_Shelf_init l G) (b := s) (As := [.int (nI (zc i)), .int (nI (zp i))]) (rest := [.ref s, .int (nI i), .ref sa]) w_Memory_17 (sp_rmI (Nat.le_of_ble_eq_true rfl) (Nat.le_of_ble_eq_true rfl) (by show 1 + i + 1 + 0 ≤ 5; omega) (by show 4 + 7 * i + 7 + 0 ≤ 32; omega)) rfl (Nat.le_of_ble_eq_true rfl) d_Memory_init_38 ⟨s, zc i, zp i, rfl, sp_u_s _ _ _, fun M3 x1 x2 => ?_⟩ rfl
      have y2 : M3 sa = _ := (x2 sa (Ne.symm ssa)).trans ((sp_u_n _ _ (Ne.symm ssa)).trans m2)
      refine sp_aast hz y2 x1 (nI_in hi4 (by decide)) d_Memory_init_41 ?_
      rw [nI_clamp hi31]
      have ef : va_up (fun j => if j < i then some (sh j) else none) i (some s) = fun j => if j < i + 1 then some (up sh i s j) else none := by
        funext j
        by_cases hj : j = i
        · rw [hj, up_s, if_pos (by omega)]
          exact if_pos rfl
        · rw [up_n _ _ hj]
          refine (if_neg hj).trans ?_
          show (if j < i then some (sh j) else none) = _
          by_cases hj2 : j < i
          · rw [if_pos hj2, if_pos (by omega)]
          · rw [if_neg hj2, if_neg (by omega)]
      rw [ef]
      refine sp_run hz _ _ e_Memory_init_42 _ _ _ ?_
      simp only [k_Memory_init_42, E_nil, E_iconst, E_bipush, E_sipush, E_ldc, E_ldc2, E_lconst, E_null, E_iload_n, E_lload_n, E_aload_n, E_istore_n, E_lstore_n, E_astore_n, E_astoreN_n, E_iload, E_lload, E_aload, E_istore, E_lstore, E_astore, E_astoreN, E_ldi, E_ldl, E_lda, E_ldN, E_iinc, E_iadd, E_isub, E_imul, E_iand, E_ior, E_ixor, E_ishl, E_ishr, E_idiv, E_irem, E_ineg, E_ladd, E_lsub, E_land, E_lor, E_lcmp, E_lshl, E_lshr, E_lushr, E_i2l, E_l2i, E_i2c, E_dupI, E_popI, E_dup_x1II, E_dup2II, E_dup_x1IR, E_dup2IR, E_dup_x1IN, E_dup2IN, E_dupR, E_popR, E_dup_x1RI, E_dup2RI, E_dup_x1RR, E_dup2RR, E_dup_x1RN, E_dup2RN, E_dupN, E_popN, E_dup_x1NI, E_dup2NI, E_dup_x1NR, E_dup2NR, E_dup_x1NN, E_dup2NN, E_goto, E_if_eq, E_if_ne, E_if_lt, E_if_ge, E_if_gt, E_if_le, E_ic_eq, E_ic_ne, E_ic_lt, E_ic_ge, E_ic_gt, E_ic_le, E_ifnull, E_ifnullN, E_ifnonnull, E_ifnonnullN, E_get, E_gf, E_xv, E_n0, E_ns, E_putI, E_putR, E_putN, E_pf, E_st0, E_sts, E_iaload, E_caload, E_laload, E_aaload, E_alen, E_iast, E_cast, E_last, E_xI, E_xJ, E_xQ, E_xN, E_lk, E_lkn, E_s1, E_s1h, E_s1I, E_s1R, E_s1N, E_s1L, E_s2, E_s2h, E_s2L, E_s2I, E_s2R, E_s2N, E_a1, E_a0, E_aI, E_aR, E_aN, E_aL, Option.isSome_some, eq_self, true_and, and_true, true_or, or_true, ne_eq, not_false_eq_true, not_true_eq_false, reduceIte, reduceCtorEq, Nat.reduceAdd, Nat.reduceBEq, Nat.reduceEqDiff, Option.toList_some, Option.toList_none, List.cons_append, List.nil_append, nI_1]
      refine sp_widen (k := 1 + (i + 1)) (n := 4 + 7 * (i + 1)) (by show 1 + i + 1 + 0 ≤ _; omega) (by show 4 + 7 * i + 7 + 0 ≤ _; omega) ?_
      refine sp_Lm _ (by simp) (kk (up sh i s) _ ?_ (sp_u_s _ _ _) (fun j hj => ?_) (fun j k hj hk e => ?_) (fun q q1 q2 => ?_))
      · rw [sp_u_n _ _ sm, x2 m (Ne.symm smm), sp_u_n _ _ (Ne.symm smm), m1]
      · by_cases hji : j = i
        · rw [hji, up_s, sp_u_n _ _ ssa]
          exact x1
        · have hj' : j < i := by omega
          have n1 : sh j ≠ sa := fun e => by
            have := m3 j hj'
            rw [e, m2] at this
            cases this
          rw [up_n _ _ hji, sp_u_n _ _ n1, x2 _ (ssh j hj'), sp_u_n _ _ (ssh j hj'), m3 j hj']
      · by_cases hji : j = i
        · by_cases hki : k = i
          · rw [hji, hki]
          · rw [hji, up_s, up_n _ _ hki] at e
            exact absurd e.symm (ssh k (by omega))
        · by_cases hki : k = i
          · rw [hki, up_s, up_n _ _ hji] at e
            exact absurd e (ssh j (by omega))
          · rw [up_n _ _ hji, up_n _ _ hki] at e
            exact m4 j k (by omega) (by omega) e
      · have n1 : q ≠ sa := fun e => q2 (by rw [e]; exact hsa)
        have n2 : q ≠ s := fun e => by
          have := m5 q q1 q2
          rw [e, hs] at this
          exact q2 (by rw [e]; exact this.symm)
        rw [sp_u_n _ _ n1, x2 q n2, sp_u_n _ _ n2, m5 q q1 q2]
    refine sp_run hz _ _ e_Memory_init_12 _ _ _ ?_
    simp only [k_Memory_init_12, E_nil, E_iconst, E_bipush, E_sipush, E_ldc, E_ldc2, E_lconst, E_null, E_iload_n, E_lload_n, E_aload_n, E_istore_n, E_lstore_n, E_astore_n, E_astoreN_n, E_iload, E_lload, E_aload, E_istore, E_lstore, E_astore, E_astoreN, E_ldi, E_ldl, E_lda, E_ldN, E_iinc, E_iadd, E_isub, E_imul, E_iand, E_ior, E_ixor, E_ishl, E_ishr, E_idiv, E_irem, E_ineg, E_ladd, E_lsub, E_land, E_lor, E_lcmp, E_lshl, E_lshr, E_lushr, E_i2l, E_l2i, E_i2c, E_dupI, E_popI, E_dup_x1II, E_dup2II, E_dup_x1IR, E_dup2IR, E_dup_x1IN, E_dup2IN, E_dupR, E_popR, E_dup_x1RI, E_dup2RI, E_dup_x1RR, E_dup2RR, E_dup_x1RN, E_dup2RN, E_dupN, E_popN, E_dup_x1NI, E_dup2NI, E_dup_x1NR, E_dup2NR, E_dup_x1NN, E_dup2NN, E_goto, E_if_eq, E_if_ne, E_if_lt, E_if_ge, E_if_gt, E_if_le, E_ic_eq, E_ic_ne, E_ic_lt, E_ic_ge, E_ic_gt, E_ic_le, E_ifnull, E_ifnullN, E_ifnonnull, E_ifnonnullN, E_get, E_gf, E_xv, E_n0, E_ns, E_putI, E_putR, E_putN, E_pf, E_st0, E_sts, E_iaload, E_caload, E_laload, E_aaload, E_alen, E_iast, E_cast, E_last, E_xI, E_xJ, E_xQ, E_xN, E_lk, E_lkn, E_s1, E_s1h, E_s1I, E_s1R, E_s1N, E_s1L, E_s2, E_s2h, E_s2L, E_s2I, E_s2R, E_s2N, E_a1, E_a0, E_aI, E_aR, E_aN, E_aL, Option.isSome_some, eq_self, true_and, and_true, true_or, or_true, ne_eq, not_false_eq_true, not_true_eq_false, reduceIte, reduceCtorEq, Nat.reduceAdd, Nat.reduceBEq, Nat.reduceEqDiff, Option.toList_some, Option.toList_none, List.cons_append, List.nil_append]
    refine sp_Lm [(0, .ref m), (1, .int (nI 0))] (by simp [nI_0]) ?_
    refine step 0 (by decide) (step 1 (by decide) (step 2 (by decide) (step 3 (by decide) (fun sh M2 m1 m2 m3 m4 m5 => ?_)))) (fun _ => 0) M1 g1 g2 (fun j h => absurd h (Nat.not_lt_zero _)) (fun j _ h => absurd h (Nat.not_lt_zero _)) g3
    refine sp_re m2 (y := (4, .inr (.inr (.inr (.inr (fun j => some (sh j))))))) ?_ ?_
    · rw [vp_cell_q, vp_cell_q]
      unfold arrV
      congr 2
      funext j
      dsimp only
      rw [if_pos j.isLt]
    · have n1 : ∀ j, j < 4 → sh j ≠ sa := fun j hj e => by
        have := m3 j hj
        rw [e, m2] at this
        cases this
      have n2 : ∀ j, j < 4 → sh j ≠ m := fun j hj e => by
        have := m3 j hj
        rw [e, m1] at this
        cases this
      have m1' : sp_u M2 sa (.inl (G.2.1 3, 4, .inr (.inr (.inr (.inr (fun j => some (sh j))))))) m = some (.inr (3, [.ref sa, .int 0, .int 0, .int 0, .int 0, .int 0])) := (sp_u_n _ _ sm).trans m1
      refine sp_run hz _ _ e_Memory_init_14 _ _ _ ?_
      simp only [k_Memory_init_14, E_nil, E_iconst, E_bipush, E_sipush, E_ldc, E_ldc2, E_lconst, E_null, E_iload_n, E_lload_n, E_aload_n, E_istore_n, E_lstore_n, E_astore_n, E_astoreN_n, E_iload, E_lload, E_aload, E_istore, E_lstore, E_astore, E_astoreN, E_ldi, E_ldl, E_lda, E_ldN, E_iinc, E_iadd, E_isub, E_imul, E_iand, E_ior, E_ixor, E_ishl, E_ishr, E_idiv, E_irem, E_ineg, E_ladd, E_lsub, E_land, E_lor, E_lcmp, E_lshl, E_lshr, E_lushr, E_i2l, E_l2i, E_i2c, E_dupI, E_popI, E_dup_x1II, E_dup2II, E_dup_x1IR, E_dup2IR, E_dup_x1IN, E_dup2IN, E_dupR, E_popR, E_dup_x1RI, E_dup2RI, E_dup_x1RR, E_dup2RR, E_dup_x1RN, E_dup2RN, E_dupN, E_popN, E_dup_x1NI, E_dup2NI, E_dup_x1NR, E_dup2NR, E_dup_x1NN, E_dup2NN, E_goto, E_if_eq, E_if_ne, E_if_lt, E_if_ge, E_if_gt, E_if_le, E_ic_eq, E_ic_ne, E_ic_lt, E_ic_ge, E_ic_gt, E_ic_le, E_ifnull, E_ifnullN, E_ifnonnull, E_ifnonnullN, E_get, E_gf, E_xv, E_n0, E_ns, E_putI, E_putR, E_putN, E_pf, E_st0, E_sts, E_iaload, E_caload, E_laload, E_aaload, E_alen, E_iast, E_cast, E_last, E_xI, E_xJ, E_xQ, E_xN, E_lk, E_lkn, E_s1, E_s1h, E_s1I, E_s1R, E_s1N, E_s1L, E_s2, E_s2h, E_s2L, E_s2I, E_s2R, E_s2N, E_a1, E_a0, E_aI, E_aR, E_aN, E_aL, Option.isSome_some, eq_self, true_and, and_true, true_or, or_true, ne_eq, not_false_eq_true, not_true_eq_false, reduceIte, reduceCtorEq, Nat.reduceAdd, Nat.reduceBEq, Nat.reduceEqDiff, Option.toList_some, Option.toList_none, List.cons_append, List.nil_append]
      refine ⟨fun _ => ?_, fun h => absurd (Int32.le_refl _) h⟩
      refine sp_run hz _ _ e_Memory_init_48 _ _ _ ?_
      simp only [k_Memory_init_48, E_nil, E_iconst, E_bipush, E_sipush, E_ldc, E_ldc2, E_lconst, E_null, E_iload_n, E_lload_n, E_aload_n, E_istore_n, E_lstore_n, E_astore_n, E_astoreN_n, E_iload, E_lload, E_aload, E_istore, E_lstore, E_astore, E_astoreN, E_ldi, E_ldl, E_lda, E_ldN, E_iinc, E_iadd, E_isub, E_imul, E_iand, E_ior, E_ixor, E_ishl, E_ishr, E_idiv, E_irem, E_ineg, E_ladd, E_lsub, E_land, E_lor, E_lcmp, E_lshl, E_lshr, E_lushr, E_i2l, E_l2i, E_i2c, E_dupI, E_popI, E_dup_x1II, E_dup2II, E_dup_x1IR, E_dup2IR, E_dup_x1IN, E_dup2IN, E_dupR, E_popR, E_dup_x1RI, E_dup2RI, E_dup_x1RR, E_dup2RR, E_dup_x1RN, E_dup2RN, E_dupN, E_popN, E_dup_x1NI, E_dup2NI, E_dup_x1NR, E_dup2NR, E_dup_x1NN, E_dup2NN, E_goto, E_if_eq, E_if_ne, E_if_lt, E_if_ge, E_if_gt, E_if_le, E_ic_eq, E_ic_ne, E_ic_lt, E_ic_ge, E_ic_gt, E_ic_le, E_ifnull, E_ifnullN, E_ifnonnull, E_ifnonnullN, E_get, E_gf, E_xv, E_n0, E_ns, E_putI, E_putR, E_putN, E_pf, E_st0, E_sts, E_iaload, E_caload, E_laload, E_aaload, E_alen, E_iast, E_cast, E_last, E_xI, E_xJ, E_xQ, E_xN, E_lk, E_lkn, E_s1, E_s1h, E_s1I, E_s1R, E_s1N, E_s1L, E_s2, E_s2h, E_s2L, E_s2I, E_s2R, E_s2N, E_a1, E_a0, E_aI, E_aR, E_aN, E_aL, Option.isSome_some, eq_self, true_and, and_true, true_or, or_true, ne_eq, not_false_eq_true, not_true_eq_false, reduceIte, reduceCtorEq, Nat.reduceAdd, Nat.reduceBEq, Nat.reduceEqDiff, Option.toList_some, Option.toList_none, List.cons_append, List.nil_append, m1', sp_u_s]
      refine sp_vret hz d_Memory_init_74 (Nat.le_refl _) (Nat.le_refl _) (hp _ sa sh (fun W Q => ⟨sp_u_s _ _ _, ?_, m4, fun j hj => ⟨⟨?_, ?_, ?_, ?_, ?_, ?_⟩, rfl, ?_⟩, rfl, by decide⟩) hsa (fun q q1 q2 => ?_))
      · rw [sp_u_n _ _ (Ne.symm sm), sp_u_n _ _ (Ne.symm sm), sp_u_n _ _ (Ne.symm sm), sp_u_n _ _ (Ne.symm sm), sp_u_n _ _ (Ne.symm sm), sp_u_s]
      · rw [sp_u_n _ _ (n2 j hj), sp_u_n _ _ (n2 j hj), sp_u_n _ _ (n2 j hj), sp_u_n _ _ (n2 j hj), sp_u_n _ _ (n2 j hj), sp_u_n _ _ (n1 j hj)]
        exact m3 j hj
      · intro k c hk
        cases hk
      · intro k c hk
        cases hk
      · intro k j x hk
        cases hk
      · intro k j x hk
        cases hk
      · intro k x hk
        cases hk
      · intro c hc
        rcases hc with hc | hc <;> cases hc
      · rw [sp_u_n _ _ q1, sp_u_n _ _ q1, sp_u_n _ _ q1, sp_u_n _ _ q1, sp_u_n _ _ q1, sp_u_n _ _ (fun e => q2 (by rw [e]; exact hsa)), m5 q q1 q2]
